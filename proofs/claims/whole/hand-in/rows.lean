section
-- ===== PART A: goes FIRST, ahead of the names: the tables' words, and 'selects' of the private methods out of them =====
/-- a private method of a class that the tables say can be made, by its rows of tables_1 -/
def lw_okq (q : MethodName × Nat) : Prop := (q.1.cls ≠ "java/lang/invoke/MethodHandle" ∧ q.1.cls ≠ "java/lang/invoke/VarHandle") ∧ Cond.instantiable q.1.cls q.2 ∈ tables_1 ∧ Cond.privateMethod q.1 ∈ tables_1 ∧ Cond.instanceMethod q.1 ∈ tables_1
theorem lw_p0 : lw_okq (⟨"NamePattern", "pieceMatches", "(II)Z"⟩, 6) := ⟨⟨by decide +kernel, by decide +kernel⟩, List.mem_of_getElem? (i := 9) (by decide +kernel), List.mem_of_getElem? (i := 61) (by decide +kernel), List.mem_of_getElem? (i := 62) (by decide +kernel)⟩
theorem lw_p1 : lw_okq (⟨"NamePattern", "startOnlyAt", "(II)V"⟩, 6) := ⟨⟨by decide +kernel, by decide +kernel⟩, List.mem_of_getElem? (i := 9) (by decide +kernel), List.mem_of_getElem? (i := 65) (by decide +kernel), List.mem_of_getElem? (i := 66) (by decide +kernel)⟩
theorem lw_p2 : lw_okq (⟨"NamePattern", "readPattern", "(IIZ)V"⟩, 6) := ⟨⟨by decide +kernel, by decide +kernel⟩, List.mem_of_getElem? (i := 9) (by decide +kernel), List.mem_of_getElem? (i := 69) (by decide +kernel), List.mem_of_getElem? (i := 70) (by decide +kernel)⟩
theorem lw_p3 : lw_okq (⟨"NamePattern", "closeOf", "(I)I"⟩, 6) := ⟨⟨by decide +kernel, by decide +kernel⟩, List.mem_of_getElem? (i := 9) (by decide +kernel), List.mem_of_getElem? (i := 73) (by decide +kernel), List.mem_of_getElem? (i := 74) (by decide +kernel)⟩
theorem lw_p4 : lw_okq (⟨"NamePattern", "isUnquoted", "(IC)Z"⟩, 6) := ⟨⟨by decide +kernel, by decide +kernel⟩, List.mem_of_getElem? (i := 9) (by decide +kernel), List.mem_of_getElem? (i := 77) (by decide +kernel), List.mem_of_getElem? (i := 78) (by decide +kernel)⟩
theorem lw_p5 : lw_okq (⟨"NamePattern", "firstMember", "(I)I"⟩, 6) := ⟨⟨by decide +kernel, by decide +kernel⟩, List.mem_of_getElem? (i := 9) (by decide +kernel), List.mem_of_getElem? (i := 81) (by decide +kernel), List.mem_of_getElem? (i := 82) (by decide +kernel)⟩
theorem lw_p6 : lw_okq (⟨"NamePattern", "takeAnyRow", "(IIZ)V"⟩, 6) := ⟨⟨by decide +kernel, by decide +kernel⟩, List.mem_of_getElem? (i := 9) (by decide +kernel), List.mem_of_getElem? (i := 85) (by decide +kernel), List.mem_of_getElem? (i := 86) (by decide +kernel)⟩
theorem lw_p7 : lw_okq (⟨"NamePattern", "takeOne", "(IIII)V"⟩, 6) := ⟨⟨by decide +kernel, by decide +kernel⟩, List.mem_of_getElem? (i := 9) (by decide +kernel), List.mem_of_getElem? (i := 98) (by decide +kernel), List.mem_of_getElem? (i := 99) (by decide +kernel)⟩
theorem lw_p8 : lw_okq (⟨"NamePattern", "fits", "(III)Z"⟩, 6) := ⟨⟨by decide +kernel, by decide +kernel⟩, List.mem_of_getElem? (i := 9) (by decide +kernel), List.mem_of_getElem? (i := 102) (by decide +kernel), List.mem_of_getElem? (i := 103) (by decide +kernel)⟩
theorem lw_p9 : lw_okq (⟨"NamePattern", "isMember", "(III)Z"⟩, 6) := ⟨⟨by decide +kernel, by decide +kernel⟩, List.mem_of_getElem? (i := 9) (by decide +kernel), List.mem_of_getElem? (i := 106) (by decide +kernel), List.mem_of_getElem? (i := 107) (by decide +kernel)⟩
theorem lw_p10 : lw_okq (⟨"NamePattern", "matchingEnd", "(Z)I"⟩, 6) := ⟨⟨by decide +kernel, by decide +kernel⟩, List.mem_of_getElem? (i := 9) (by decide +kernel), List.mem_of_getElem? (i := 114) (by decide +kernel), List.mem_of_getElem? (i := 115) (by decide +kernel)⟩
theorem lw_p11 : lw_okq (⟨"NamePattern", "startAnywhere", "()V"⟩, 6) := ⟨⟨by decide +kernel, by decide +kernel⟩, List.mem_of_getElem? (i := 9) (by decide +kernel), List.mem_of_getElem? (i := 118) (by decide +kernel), List.mem_of_getElem? (i := 119) (by decide +kernel)⟩
theorem lw_p12 : lw_okq (⟨"NamePattern", "matchingBeginning", "(Z)I"⟩, 6) := ⟨⟨by decide +kernel, by decide +kernel⟩, List.mem_of_getElem? (i := 9) (by decide +kernel), List.mem_of_getElem? (i := 122) (by decide +kernel), List.mem_of_getElem? (i := 123) (by decide +kernel)⟩
theorem lw_p13 : lw_okq (⟨"NamePattern", "quotedCount", "()I"⟩, 6) := ⟨⟨by decide +kernel, by decide +kernel⟩, List.mem_of_getElem? (i := 9) (by decide +kernel), List.mem_of_getElem? (i := 134) (by decide +kernel), List.mem_of_getElem? (i := 135) (by decide +kernel)⟩
theorem lw_p14 : lw_okq (⟨"NamePattern", "setCount", "()I"⟩, 6) := ⟨⟨by decide +kernel, by decide +kernel⟩, List.mem_of_getElem? (i := 9) (by decide +kernel), List.mem_of_getElem? (i := 138) (by decide +kernel), List.mem_of_getElem? (i := 139) (by decide +kernel)⟩
theorem lw_p15 : lw_okq (⟨"java/lang/Throwable", "fillInStackTrace", "(I)Ljava/lang/Throwable;"⟩, 6) := ⟨⟨by decide +kernel, by decide +kernel⟩, List.mem_of_getElem? (i := 186) (by decide +kernel), List.mem_of_getElem? (i := 184) (by decide +kernel), List.mem_of_getElem? (i := 185) (by decide +kernel)⟩
def lw_privs_1 : List (MethodName × Nat) := [(⟨"NamePattern", "pieceMatches", "(II)Z"⟩, 6), (⟨"NamePattern", "startOnlyAt", "(II)V"⟩, 6), (⟨"NamePattern", "readPattern", "(IIZ)V"⟩, 6), (⟨"NamePattern", "closeOf", "(I)I"⟩, 6), (⟨"NamePattern", "isUnquoted", "(IC)Z"⟩, 6), (⟨"NamePattern", "firstMember", "(I)I"⟩, 6), (⟨"NamePattern", "takeAnyRow", "(IIZ)V"⟩, 6), (⟨"NamePattern", "takeOne", "(IIII)V"⟩, 6), (⟨"NamePattern", "fits", "(III)Z"⟩, 6), (⟨"NamePattern", "isMember", "(III)Z"⟩, 6), (⟨"NamePattern", "matchingEnd", "(Z)I"⟩, 6), (⟨"NamePattern", "startAnywhere", "()V"⟩, 6), (⟨"NamePattern", "matchingBeginning", "(Z)I"⟩, 6), (⟨"NamePattern", "quotedCount", "()I"⟩, 6), (⟨"NamePattern", "setCount", "()I"⟩, 6), (⟨"java/lang/Throwable", "fillInStackTrace", "(I)Ljava/lang/Throwable;"⟩, 6)]
theorem lw_r1 : ∀ q ∈ lw_privs_1, lw_okq q := List.forall_mem_cons.mpr ⟨lw_p0, List.forall_mem_cons.mpr ⟨lw_p1, List.forall_mem_cons.mpr ⟨lw_p2, List.forall_mem_cons.mpr ⟨lw_p3, List.forall_mem_cons.mpr ⟨lw_p4, List.forall_mem_cons.mpr ⟨lw_p5, List.forall_mem_cons.mpr ⟨lw_p6, List.forall_mem_cons.mpr ⟨lw_p7, List.forall_mem_cons.mpr ⟨lw_p8, List.forall_mem_cons.mpr ⟨lw_p9, List.forall_mem_cons.mpr ⟨lw_p10, List.forall_mem_cons.mpr ⟨lw_p11, List.forall_mem_cons.mpr ⟨lw_p12, List.forall_mem_cons.mpr ⟨lw_p13, List.forall_mem_cons.mpr ⟨lw_p14, List.forall_mem_cons.mpr ⟨lw_p15, fun _ h => absurd h List.not_mem_nil⟩⟩⟩⟩⟩⟩⟩⟩⟩⟩⟩⟩⟩⟩⟩⟩
theorem lw_p16 : lw_okq (⟨"NamePatternModel", "go", "(II)V"⟩, 8) := ⟨⟨by decide +kernel, by decide +kernel⟩, List.mem_of_getElem? (i := 216) (by decide +kernel), List.mem_of_getElem? (i := 268) (by decide +kernel), List.mem_of_getElem? (i := 269) (by decide +kernel)⟩
theorem lw_p17 : lw_okq (⟨"NamePatternModel", "closed", "(I)I"⟩, 8) := ⟨⟨by decide +kernel, by decide +kernel⟩, List.mem_of_getElem? (i := 216) (by decide +kernel), List.mem_of_getElem? (i := 272) (by decide +kernel), List.mem_of_getElem? (i := 273) (by decide +kernel)⟩
theorem lw_p18 : lw_okq (⟨"NamePatternModel", "is", "(II)Z"⟩, 8) := ⟨⟨by decide +kernel, by decide +kernel⟩, List.mem_of_getElem? (i := 216) (by decide +kernel), List.mem_of_getElem? (i := 276) (by decide +kernel), List.mem_of_getElem? (i := 277) (by decide +kernel)⟩
theorem lw_p19 : lw_okq (⟨"NamePatternModel", "takes", "(III)Z"⟩, 8) := ⟨⟨by decide +kernel, by decide +kernel⟩, List.mem_of_getElem? (i := 216) (by decide +kernel), List.mem_of_getElem? (i := 280) (by decide +kernel), List.mem_of_getElem? (i := 281) (by decide +kernel)⟩
theorem lw_p20 : lw_okq (⟨"NamePatternModel", "isMember", "(III)Z"⟩, 8) := ⟨⟨by decide +kernel, by decide +kernel⟩, List.mem_of_getElem? (i := 216) (by decide +kernel), List.mem_of_getElem? (i := 284) (by decide +kernel), List.mem_of_getElem? (i := 285) (by decide +kernel)⟩
def lw_privs_2 : List (MethodName × Nat) := [(⟨"NamePatternModel", "go", "(II)V"⟩, 8), (⟨"NamePatternModel", "closed", "(I)I"⟩, 8), (⟨"NamePatternModel", "is", "(II)Z"⟩, 8), (⟨"NamePatternModel", "takes", "(III)Z"⟩, 8), (⟨"NamePatternModel", "isMember", "(III)Z"⟩, 8)]
theorem lw_r2 : ∀ q ∈ lw_privs_2, lw_okq q := List.forall_mem_cons.mpr ⟨lw_p16, List.forall_mem_cons.mpr ⟨lw_p17, List.forall_mem_cons.mpr ⟨lw_p18, List.forall_mem_cons.mpr ⟨lw_p19, List.forall_mem_cons.mpr ⟨lw_p20, fun _ h => absurd h List.not_mem_nil⟩⟩⟩⟩⟩
def lw_privs : List (MethodName × Nat) := lw_privs_1 ++ (lw_privs_2)
def lw_tbl : List Cond := k2_sels lw_privs ++ tables_1
theorem lw_privs_ok : ∀ q ∈ lw_privs, lw_okq q := by
  show ∀ q ∈ lw_privs_1 ++ (lw_privs_2), lw_okq q
  exact List.forall_mem_append.mpr ⟨lw_r1, lw_r2⟩

/-! ===== BEGIN words of one list among another's, by their places ===== -/
theorem goodIn_r {big : List Cond} (ws : List Cond) (ps : List Nat) (hp : ws = ps.filterMap (fun i => big[i]?)) (h : ws.all goodWord = true) : GoodIn big ws := by
  intro w hw
  have h1 := List.all_eq_true.mp h w hw
  rw [hp] at hw
  obtain ⟨i, -, hi⟩ := List.mem_filterMap.mp hw
  have hm : w ∈ big := by first | exact List.mem_of_getElem? hi | exact List.getElem?_mem hi
  exact ⟨hm, good_of_word h1⟩
theorem goodIn_app {big a b : List Cond} (ha : GoodIn big a) (hb : GoodIn big b) : GoodIn big (a ++ b) := fun w h => (List.mem_append.mp h).elim (ha w) (hb w)
theorem goodIn_ca {big a b : List Cond} {c : Cond} (ha : GoodIn big (c :: a)) (hb : GoodIn big b) : GoodIn big (c :: (a ++ b)) := fun w h => (List.mem_cons.mp h).elim (fun e => ha w (List.mem_cons.mpr (Or.inl e))) (fun h => (List.mem_append.mp h).elim (fun h => ha w (List.mem_cons.mpr (Or.inr h))) (hb w))
theorem goodIn_sub {big ws : List Cond} (hm : ∀ w ∈ ws, w ∈ big) (h : ws.all goodWord = true) : GoodIn big ws := fun w hw => ⟨hm w hw, good_of_word (List.all_eq_true.mp h w hw)⟩
/-! ===== END ===== -/

/-! ===== BEGIN exceptions that leave a method, and their catching by the caller (launches without stack traces) ===== -/
section VXA
/-! The laws vx_back, vx_callV, vx_callS, vx_callSW, vx_throw0, vx_throwS follow proofs of the library, with one case more: JvmDerived/Free/Laws.lean (Back.of_free), Shelf42/LK1.lean (callV, callS), Shelf/KitTraced.lean (throwNew0V, throwNewS). -/
/-- where a method has thrown q: the class by its name, the cell, what was written, the world -/
def vx_T (XC : String → State → State → Prop) (st : State) (q : Addr) (t : State) (mc ms : Nat) (free : Addr → Prop) : Prop :=
  ∃ (E : String) (ce : Cell) (L : List Loc), XC E st t ∧ t.heap[q]? = some ce ∧ ce.vm = .none ∧ st.vm.findClass E = some ce.cls ∧ st.WarmedH t.vm ∧ st.sameButNew ({ t with vm := st.vm } : State) L mc ms ∧ ∀ z ∈ L, free z.base
def vx_Q (Qc : Array Value → State → Outcome → State → Prop) (XC : String → State → State → Prop) (mc ms : Nat) (free : Addr → Prop) : Array Value → State → Outcome → State → Prop := fun a st o t =>
  (Qc a st o t ∧ ∃ L, FrameEnd st o t L mc ms ∧ ∀ q ∈ L, free q.base) ∨ ∃ q, o = .threw q ∧ vx_T XC st q t mc ms free
/-- a callee that returns or throws -/
def vx_Met (l : Launch) (y : MethodName) (ws : List Cond) (rm : Room) (Pc : Array Value → State → Prop) (Qc : Array Value → State → Outcome → State → Prop) (XC : String → State → State → Prop) (mc ms : Nat) (free : Addr → Prop) : Prop :=
  MetFree l y (headSpec ws rm) Pc (fun _ _ _ _ _ => True) (vx_Q Qc XC mc ms free)
def vx_Post (XC : String → State → State → Prop) (mc ms : Nat) (free : Addr → Prop) : Pt → Array Value → Addr → Pt → Prop := fun A a q B =>
  ∃ (g : JFrame) (mk : MethodId) (t : State) (L : List Loc) (E : String) (ce : Cell), B.U.heap = t.heap ∧ B.U.vm = t.vm ∧ XC E (A.U.calling g mk a) t ∧ t.heap[q]? = some ce ∧ ce.vm = .none ∧ A.U.vm.findClass E = some ce.cls ∧ B.locs = A.locs ++ L ∧ (∀ z ∈ L, free z.base) ∧ B.cells = A.cells + mc ∧ B.slots = A.slots + ms
def vx_Back (l : Launch) (R : Room) (p : Program) (e : Env) (below : List Frame) (s : State) (sargs : Array Value) (y : MethodName) (len W9 : Nat)
    (Pre : Pt → Array Value → Prop) (Post : Pt → Array Value → Option Value → Pt → Prop) (PostX : Pt → Array Value → Addr → Pt → Prop) : Prop :=
  ∀ (m : MethodId) (meth : Method) (c : Code) (A : Pt) (g : JFrame) (ig : Instr) (mk : MethodId) (a : Array Value),
    Stand p l e R s m sargs below meth c A.U A.locs A.cells A.slots → g.method = m → g.locals.size = c.maxLocals → decode c.code g.pc = .ok (ig, len) →
    2 * g.monitorRoom + (g.stack.map fun v => v.category).sum ≤ W9 → A.U.methodNamed? y = some mk → Pre A a →
    (∃ (v : Option Value) (B : Pt), Stand p l e R s m sargs below meth c B.U B.locs B.cells B.slots ∧ Post A a v B ∧
      Steps p.tables e below (doInvoke e (A.U.setTop g) [] mk a).1 (B.U.setTop { g with pc := g.pc + len, stack := v.toList ++ g.stack })) ∨
    (∃ (q : Addr) (B : Pt), Stand p l e R s m sargs below meth c B.U B.locs B.cells B.slots ∧ PostX A a q B ∧
      Steps p.tables e below (doInvoke e (A.U.setTop g) [] mk a).1 ((B.U.setTop g).pushFrame (.throwing q)))
section Payer
variable {l : Launch} {R : Room} {p : Program} {e : Env} {below : List Frame} {s : State} {sargs : Array Value} {y : MethodName} {len W9 : Nat}
theorem vx_back {ws : List Cond} {rm : Room} {Pc : Array Value → State → Prop} {Qc : Array Value → State → Outcome → State → Prop} {XC : String → State → State → Prop} {mc ms : Nat} {free : Addr → Prop} {bytes : ByteArray} {maxL : Nat} {ret : Option FieldType}
    (hM : vx_Met l y ws rm Pc Qc XC mc ms free) (hblind : FrameBlind Pc) (hrc : rm.cells = mc) (hrs : rm.slots = ms)
    (hframes : rm.frames + 1 ≤ R.frames) (hlocals : W9 + (maxL + 11) + rm.locals ≤ R.locals)
    (hws : ∀ w ∈ ws, ∀ a' U, s.WarmedH U.vm → w.before a' U = true) (hcode : Cond.code y bytes maxL ret ∈ ws) (hinit : ∀ a' U, s.WarmedH U.vm → (Cond.initialized y.cls).before a' U = true) :
    vx_Back l R p e below s sargs y len W9 (PreOf R mc ms Pc) (PostOf Qc mc ms free) (vx_Post XC mc ms free) := by
  intro m meth c A g ig mk a X hg hsize hdg hW hn hp
  have h1 : (headSpec ws rm).pre.before a A.U = true := atoms_intro fun w hw => hws w hw _ _ X.warmed
  have h2 : (Cond.code y bytes maxL ret).before a A.U = true := hws _ hcode _ _ X.warmed
  have h3 : (Cond.initialized y.cls).before a A.U = true := hinit _ _ X.warmed
  have h4 : A.cells + (headSpec ws rm).room.cells ≤ R.cells := by rw [show (headSpec ws rm).room.cells = mc from hrc]; exact hp.1
  have h5 : A.slots + (headSpec ws rm).room.slots ≤ R.slots := by rw [show (headSpec ws rm).room.slots = ms from hrs]; exact hp.2.1
  have hPc : Pc a (A.U.calling g mk a) := hblind _ _ _ _ hp.2.2
  obtain ⟨U, Ls, c0, s0⟩ := A
  dsimp only [Pt.U, Pt.locs, Pt.cells, Pt.slots] at h1 h2 h3 h4 h5 X hn hPc ⊢
  obtain ⟨methY, cY, hmY, hcY, -, hlY, -, -, -, -⟩ := Cond.code_spec hn h2
  obtain ⟨kY, hkY, -⟩ := className_of_methodNamed hn
  have hinitY : kY.init = .initialized := Cond.initialized_spec (findClass_of_methodNamed hn) hkY h3
  have h : At U g.method c below := by rw [hg]; exact X.here
  have hlocals9 : W9 + (maxL + 11) + (headSpec ws rm).room.locals ≤ R.locals := hlocals
  have happ : (headSpec ws rm).appliesLoose y e.platform (U.calling g mk a) = true :=
    Spec.appliesLoose_calling (g := g) h hdg hn hkY hinitY
      (X.room_calling (g := g) (R' := (headSpec ws rm).room) hsize hmY hcY hframes (by rw [hlY]; omega) h4 h5) h1
  obtain ⟨mid, hmid⟩ := h.above
  have hfr : (U.setTop g).frames = (.java g :: mid) ++ below := by rw [State.frames_setTop' g h.top, hmid]; rfl
  obtain ⟨o, s₂, hsteps, -, hend, hq⟩ := Steps.callFree hM p X.admits X.cas X.clock (acts := []) hfr happ hPc trivial
  have hq' : vx_Q Qc XC mc ms free a (U.calling g mk a) o s₂ := hq
  rw [State.frames_setTop' g h.top] at hend
  obtain ⟨g₀, hg0⟩ := Option.isSome_iff_exists.mp h.top
  obtain ⟨r, hr⟩ := State.topJava?_eq_some.mp hg0
  have hr' : (({ U with heap := s₂.heap, slotsUsed := s₂.slotsUsed } : State).setVm s₂.vm).frames = .java g₀ :: r := hr
  rcases hq' with ⟨hqc, L, hfe, hL⟩ | ⟨q, rfl, E, ce, L, hx, hce, hcv, hcl, hW₂, hsm, hL⟩
  · obtain ⟨⟨v, rfl⟩, hW₂, e2, q2, q3, q4, q5, q6⟩ := id hfe
    have e3 : s₂ = ({ (U.calling g mk a).setFrames s₂.frames with heap := s₂.heap, slotsUsed := s₂.slotsUsed } : State).setVm s₂.vm := by
      have : s₂ = ({ s₂ with vm := (U.calling g mk a).vm } : State).setVm s₂.vm := rfl
      rw [e2] at this
      exact this
    obtain ⟨c₂, i₂, len₂, hc₂, hd₂, hf₂⟩ := hend
    have hW' : U.WarmedH s₂.vm := hW₂
    have hcc : c₂ = c := by
      have h1 : s₂.code? g.method = U.code? g.method := by
        rw [State.code?_eq, State.code?_eq, hW'.alike.method?]
      exact Option.some.inj (hc₂.symm.trans (h1.trans h.code))
    subst hcc
    have hlen : len₂ = len := by rw [hdg] at hd₂; cases hd₂; rfl
    subst hlen
    have hs₂ : s₂ = (({ U with heap := s₂.heap, slotsUsed := s₂.slotsUsed } : State).setVm s₂.vm).setTop { g with pc := g.pc + len₂, stack := v.toList ++ g.stack } := by
      refine e3.trans ?_
      rw [hf₂, State.calling_eq h.top, State.setFrames_setFrames, State.setTop_of_frames _ hr', hr]
      rfl
    have hsame : U.sameButNew ({ U with heap := s₂.heap, slotsUsed := s₂.slotsUsed } : State) L mc ms := by
      refine ⟨?_, q2, q3, q4, q5, q6⟩
      obtain ⟨t, ht, -⟩ := State.frames_cons hr
      show ({ U with heap := s₂.heap, slotsUsed := s₂.slotsUsed } : State) = { U.setFrames U.frames with heap := s₂.heap, slotsUsed := s₂.slotsUsed }
      rw [State.setFrames_self ht]
    subst hg
    refine Or.inl ⟨v, ⟨(({ U with heap := s₂.heap, slotsUsed := s₂.slotsUsed } : State).setVm s₂.vm), Ls ++ L, c0 + mc, s0 + ms⟩,
      ⟨X.admits, X.cas, X.clock, X.frames, X.room, X.hears, X.method, X.code, (X.here.setHeapUsed s₂.heap s₂.slotsUsed).setVm hW'.alike, X.tail, State.WarmedH.trans X.warmed hW', X.limits, X.bytes, X.same.trans (hsame.setVm s.vm)⟩,
      ⟨g, mk, s₂, L, rfl, rfl, hqc, rfl, hL, rfl, rfl⟩, ?_⟩
    show Steps p.tables e below _ ((({ U with heap := s₂.heap, slotsUsed := s₂.slotsUsed } : State).setVm s₂.vm).setTop { g with pc := g.pc + len₂, stack := v.toList ++ g.stack })
    rw [← hs₂]
    exact hsteps
  · obtain ⟨e2, q2, q3, q4, q5, q6⟩ := id hsm
    have e3 : s₂ = ({ (U.calling g mk a).setFrames s₂.frames with heap := s₂.heap, slotsUsed := s₂.slotsUsed } : State).setVm s₂.vm := by
      have : s₂ = ({ s₂ with vm := (U.calling g mk a).vm } : State).setVm s₂.vm := rfl
      rw [e2] at this
      exact this
    have hf₂ : s₂.frames = .throwing q :: .java g :: U.frames.tail := hend
    have hW' : U.WarmedH s₂.vm := hW₂
    have hs₂ : s₂ = ((({ U with heap := s₂.heap, slotsUsed := s₂.slotsUsed } : State).setVm s₂.vm).setTop g).pushFrame (.throwing q) := by
      refine e3.trans ?_
      rw [hf₂, State.calling_eq h.top, State.setFrames_setFrames, State.pushFrame, State.frames_setTop _ hr', State.setTop_of_frames _ hr', State.setFrames_setFrames, hr]
      rfl
    have hsame : U.sameButNew ({ U with heap := s₂.heap, slotsUsed := s₂.slotsUsed } : State) L mc ms := by
      refine ⟨?_, q2, q3, q4, q5, q6⟩
      obtain ⟨t, ht, -⟩ := State.frames_cons hr
      show ({ U with heap := s₂.heap, slotsUsed := s₂.slotsUsed } : State) = { U.setFrames U.frames with heap := s₂.heap, slotsUsed := s₂.slotsUsed }
      rw [State.setFrames_self ht]
    subst hg
    refine Or.inr ⟨q, ⟨(({ U with heap := s₂.heap, slotsUsed := s₂.slotsUsed } : State).setVm s₂.vm), Ls ++ L, c0 + mc, s0 + ms⟩,
      ⟨X.admits, X.cas, X.clock, X.frames, X.room, X.hears, X.method, X.code, (X.here.setHeapUsed s₂.heap s₂.slotsUsed).setVm hW'.alike, X.tail, State.WarmedH.trans X.warmed hW', X.limits, X.bytes, X.same.trans (hsame.setVm s.vm)⟩,
      ⟨g, mk, s₂, L, E, ce, rfl, rfl, hx, hce, hcv, hcl, rfl, hL, rfl, rfl⟩, ?_⟩
    show Steps p.tables e below _ (((({ U with heap := s₂.heap, slotsUsed := s₂.slotsUsed } : State).setVm s₂.vm).setTop g).pushFrame (.throwing q))
    rw [← hs₂]
    exact hsteps
end Payer
section Calls
variable {p : Program} {l : Launch} {e : Env} {R : Room} {s : State} {m : MethodId} {args : Array Value} {below : List Frame} {meth : Method} {c : Code} {T : State} {locs : List Loc} {cells slots : Nat}
theorem vx_callV (X : Stand p l e R s m args below meth c T locs cells slots) (hexec : p.tables.exec = Jvm.exec) {own C : String} {index : Nat} {y : MethodName} {bytes : ByteArray} {maxL : Nat} {ret : Option FieldType}
    (hown : s.vm.findClass own = some m.cls) (hlink : (Cond.methodLink own index y).before args s = true) (hinst : (Cond.instanceMethod y).before args s = true) (hsel : (Cond.selects C y y).before args s = true)
    (hcode : (Cond.code y bytes maxL ret).before args s = true) (hy : y.cls ≠ "java/lang/invoke/MethodHandle" ∧ y.cls ≠ "java/lang/invoke/VarHandle")
    {W9 : Nat} {Pre : Pt → Array Value → Prop} {Post : Pt → Array Value → Option Value → Pt → Prop} {PostX : Pt → Array Value → Addr → Pt → Prop} (hK : vx_Back l R p e below s args y 3 W9 Pre Post PostX)
    {b : Addr} {cellB : Cell} (hcell : T.heap[b]? = some cellB) (hobj : cellB.vm.isStatics = false) (hcls : s.vm.findClass C = some cellB.cls)
    {g : JFrame} (hg : g.method = m) (hsize : g.locals.size = c.maxLocals) {argsL rest : List Value} (hlen : ∀ sig, parseMethodDescriptor y.desc = some sig → argsL.length = sig.parameters.length)
    (hstack : g.stack = argsL.reverse ++ .ref b :: rest) (hW : 2 * g.monitorRoom + (rest.map fun v => v.category).sum ≤ W9) (hdg : decode c.code g.pc = .ok (.invokevirtual index, 3))
    (hpre : ∀ vm₁, s.WarmedH vm₁ → Pre ⟨T.setVm vm₁, locs, cells, slots⟩ (Value.ref b :: argsL).toArray) :
    (∃ (v : Option Value) (vm₁ : Vm) (B : Pt), s.WarmedH vm₁ ∧ Stand p l e R s m args below meth c B.U B.locs B.cells B.slots ∧ Post ⟨T.setVm vm₁, locs, cells, slots⟩ (Value.ref b :: argsL).toArray v B ∧
      ∀ target, Steps p.tables e below (B.U.setTop { g with pc := g.pc + 3, stack := v.toList ++ rest }) target → Steps p.tables e below (T.setTop g) target) ∨
    (∃ (q : Addr) (vm₁ : Vm) (B : Pt), s.WarmedH vm₁ ∧ Stand p l e R s m args below meth c B.U B.locs B.cells B.slots ∧ PostX ⟨T.setVm vm₁, locs, cells, slots⟩ (Value.ref b :: argsL).toArray q B ∧
      Steps p.tables e below (T.setTop g) ((B.U.setTop { g with stack := rest }).pushFrame (.throwing q))) := by
  obtain ⟨mk, methM, hnamed, hmethM, hstM, habM⟩ := Cond.instanceMethod_spec hinst
  obtain ⟨methM', cM, hmethM', -, -, -, -, -, -, hsigM⟩ := Cond.code_spec hnamed hcode
  cases hmethM.symm.trans hmethM'
  obtain ⟨c2, r2, m2, q1, q2, q3, q4, kP, hkP, hkPi⟩ := Cond.selects_spec hsel
  cases hcls.symm.trans q1
  cases (State.methodFound?_of_named hnamed hy).symm.trans q2
  cases hnamed.symm.trans q3
  have hselP : selectMethod e.platform s.vm cellB.cls mk = .method mk := by rw [Launch.admits_selectMethod X.admits]; exact q4
  obtain ⟨vm₁, X₁, hstep₁⟩ := X.invokevirtual hexec hown hlink hnamed hmethM hstM hkP hkPi hy (a := b) (cell := cellB) hcell
    (fun z h => by rw [h] at hobj; cases hobj) hselP hmethM habM hkP hkPi (g := g) hg (argsL := argsL) (rest := rest) (hlen _ hsigM) hstack hdg
  rcases hK m meth c ⟨T.setVm vm₁, locs, cells, slots⟩ { g with stack := rest } (.invokevirtual index) mk (Value.ref b :: argsL).toArray X₁ hg hsize hdg hW (X₁.named hnamed) (hpre vm₁ X₁.warmed) with ⟨v, B, X', hpost, hsteps⟩ | ⟨q, B, X', hpost, hsteps⟩
  · exact Or.inl ⟨v, vm₁, B, X₁.warmed, X', hpost, fun target h => hstep₁ _ fun acts => by rw [doInvoke_state]; exact hsteps.trans h⟩
  · exact Or.inr ⟨q, vm₁, B, X₁.warmed, X', hpost, hstep₁ _ fun acts => by rw [doInvoke_state]; exact hsteps⟩
theorem vx_callS (X : Stand p l e R s m args below meth c T locs cells slots) (hexec : p.tables.exec = Jvm.exec) {own : String} {index : Nat} {y : MethodName} {bytes : ByteArray} {maxL : Nat} {ret : Option FieldType}
    (hown : s.vm.findClass own = some m.cls) (hlink : (Cond.methodLink own index y).before args s = true) (hstat : (Cond.static y).before args s = true) (hinit : (Cond.initialized y.cls).before args s = true)
    (hcode : (Cond.code y bytes maxL ret).before args s = true) (hy : y.cls ≠ "java/lang/invoke/MethodHandle" ∧ y.cls ≠ "java/lang/invoke/VarHandle")
    {W9 : Nat} {Pre : Pt → Array Value → Prop} {Post : Pt → Array Value → Option Value → Pt → Prop} {PostX : Pt → Array Value → Addr → Pt → Prop} (hK : vx_Back l R p e below s args y 3 W9 Pre Post PostX)
    {g : JFrame} (hg : g.method = m) (hsize : g.locals.size = c.maxLocals) {argsL rest : List Value} (hlen : ∀ sig, parseMethodDescriptor y.desc = some sig → argsL.length = sig.parameters.length)
    (hstack : g.stack = argsL.reverse ++ rest) (hW : 2 * g.monitorRoom + (rest.map fun v => v.category).sum ≤ W9) (hdg : decode c.code g.pc = .ok (.invokestatic index, 3))
    (hpre : ∀ vm₁, s.WarmedH vm₁ → Pre ⟨T.setVm vm₁, locs, cells, slots⟩ argsL.toArray) :
    (∃ (v : Option Value) (vm₁ : Vm) (B : Pt), s.WarmedH vm₁ ∧ Stand p l e R s m args below meth c B.U B.locs B.cells B.slots ∧ Post ⟨T.setVm vm₁, locs, cells, slots⟩ argsL.toArray v B ∧
      ∀ target, Steps p.tables e below (B.U.setTop { g with pc := g.pc + 3, stack := v.toList ++ rest }) target → Steps p.tables e below (T.setTop g) target) ∨
    (∃ (q : Addr) (vm₁ : Vm) (B : Pt), s.WarmedH vm₁ ∧ Stand p l e R s m args below meth c B.U B.locs B.cells B.slots ∧ PostX ⟨T.setVm vm₁, locs, cells, slots⟩ argsL.toArray q B ∧
      Steps p.tables e below (T.setTop g) ((B.U.setTop { g with stack := rest }).pushFrame (.throwing q))) := by
  obtain ⟨mk, hnamed⟩ := Cond.code_named hcode
  obtain ⟨methM, cM, hmethM, -, -, -, -, -, -, hsigM⟩ := Cond.code_spec hnamed hcode
  have hstatic : methM.isStatic = true := Cond.static_spec hnamed hmethM hstat
  obtain ⟨kP, hkP, -⟩ := className_of_methodNamed hnamed
  have hinitP : kP.init = .initialized := Cond.initialized_spec (findClass_of_methodNamed hnamed) hkP hinit
  obtain ⟨vm₁, X₁, hstep₁⟩ := X.invokestatic hexec hown hlink hnamed hmethM hstatic hkP hinitP hy (g := g) hg (argsL := argsL) (rest := rest) (hlen _ hsigM) hstack hdg
  rcases hK m meth c ⟨T.setVm vm₁, locs, cells, slots⟩ { g with stack := rest } (.invokestatic index) mk argsL.toArray X₁ hg hsize hdg hW (X₁.named hnamed) (hpre vm₁ X₁.warmed) with ⟨v, B, X', hpost, hsteps⟩ | ⟨q, B, X', hpost, hsteps⟩
  · exact Or.inl ⟨v, vm₁, B, X₁.warmed, X', hpost, fun target h => hstep₁ _ fun acts => by rw [doInvoke_state]; exact hsteps.trans h⟩
  · exact Or.inr ⟨q, vm₁, B, X₁.warmed, X', hpost, hstep₁ _ fun acts => by rw [doInvoke_state]; exact hsteps⟩
end Calls
theorem vx_cls {s : State} {T : State} {vm₁ : Vm} {E : String} {k : ClassId} (hW : s.WarmedH vm₁) (h : (T.setVm vm₁).vm.findClass E = some k) : s.vm.findClass E = some k := by
  have h1 : vm₁.findClass E = some k := h
  rw [hW.alike.findClass] at h1
  exact h1
/-- the method's frame g, with q thrown over it -/
def vx_W (p : Program) (l : Launch) (e : Env) (R : Room) (s : State) (m : MethodId) (args : Array Value) (below : List Frame) (meth : Method) (c : Code) (H : Heap) (locs : List Loc) (cells slots : Nat) (Q : State → Prop) (g : JFrame) (q : Addr) : Prop :=
  ∀ T : State, T.heap = H → Stand p l e R s m args below meth c T locs cells slots → ∃ t, Steps p.tables e below ((T.setTop g).pushFrame (.throwing q)) t ∧ Q t
def vx_Run (p : Program) (l : Launch) (e : Env) (R : Room) (s : State) (m : MethodId) (args : Array Value) (below : List Frame) (meth : Method) (c : Code) (H : Heap) (locs : List Loc) (cells slots mc ms : Nat) (g : JFrame) (rest : List Value) (Qa : State → Outcome → State → Prop) (XC : String → State → State → Prop) (free : Addr → Prop) : Prop :=
  ∀ T : State, T.heap = H → Stand p l e R s m args below meth c T locs cells slots →
    (∃ (v : Option Value) (st₀ t T' : State) (L : List Loc), st₀.heap = H ∧ Stand p l e R s m args below meth c T' (locs ++ L) (cells + mc) (slots + ms) ∧ (∀ q ∈ L, free q.base) ∧ T'.heap = t.heap ∧ T'.vm = t.vm ∧ Qa st₀ (.returned v) t ∧
      Goes p e below T g T' { g with pc := g.pc + 3, stack := v.toList ++ rest }) ∨
    (∃ (q : Addr) (st₀ t T' : State) (L : List Loc) (E : String) (ce : Cell), st₀.heap = H ∧ Stand p l e R s m args below meth c T' (locs ++ L) (cells + mc) (slots + ms) ∧ (∀ z ∈ L, free z.base) ∧ T'.heap = t.heap ∧ T'.vm = t.vm ∧ XC E st₀ t ∧ t.heap[q]? = some ce ∧ ce.vm = .none ∧ s.vm.findClass E = some ce.cls ∧
      Steps p.tables e below (T.setTop g) ((T'.setTop { g with stack := rest }).pushFrame (.throwing q)))
def vx_X {S : Type} (px : S → Prop) (B : String → S → State → Prop) (A : Nat → Prop) : String → State → State → Prop := fun E st t => ∃ u : S, px u ∧ B E u t ∧ va_F A st t
section Runs
variable {p : Program} {l : Launch} {e : Env} {R : Room} {s : State} {m : MethodId} {args : Array Value} {below : List Frame} {meth : Method} {c : Code} {H : Heap} {locs : List Loc} {cells slots : Nat}
variable {y : MethodName} {bytes cc : ByteArray} {maxL nL mc ms n index : Nat} {ret : Option FieldType} {ws : List Cond} {rm : Room} {Pc : Array Value → State → Prop} {Qc : Array Value → State → Outcome → State → Prop} {XC : String → State → State → Prop} {free : Addr → Prop} {Ts : List Cond} {own C : String} {b : Addr} {As rest : List Value} {g : JFrame}
theorem vx_callBack (cb : CallB R s args own index y bytes maxL ret ws rm mc ms n) (hM : vx_Met l y ws rm Pc Qc XC mc ms free) (hbl : FrameBlind Pc) : vx_Back l R p e below s args y 3 8 (PreOf R mc ms Pc) (PostOf Qc mc ms free) (vx_Post XC mc ms free) := by
  obtain ⟨hrc, hrs, hfr, hlo, hws, hcw, -, hini, -⟩ := cb
  exact vx_back (bytes := bytes) (maxL := maxL) (ret := ret) hM hbl hrc hrs hfr hlo hws hcw (fun a' U hW => word_at hW (Or.inl (by first | rfl | simp [Cond.onTables, Cond.keeps, Cond.steady])) hini)
theorem vx_runV (S : CallFix p m c cc nL s args Ts own) (hM : vx_Met l y ws rm Pc Qc XC mc ms free) (cw : CallW R s args own C index y bytes maxL ret ws rm mc ms n) (hp : PreV s H C b Pc As)
    (hg : g.method = m) (hn : As.length = n) (hsize : g.locals.size = nL) (hstack : g.stack = As.reverse ++ .ref b :: rest) (hW : 2 * g.monitorRoom + (rest.map fun v => v.category).sum ≤ 8) (hdg : decode cc g.pc = .ok (.invokevirtual index, 3)) (hf : cells + mc ≤ R.cells ∧ slots + ms ≤ R.slots) :
    vx_Run p l e R s m args below meth c H locs cells slots mc ms g rest (Qc (Value.ref b :: As).toArray) XC free := by
  have hK : vx_Back l R p e below s args y 3 8 (PreOf R mc ms Pc) (PostOf Qc mc ms free) (vx_Post XC mc ms free) := vx_callBack cw.1 hM hp.1
  obtain ⟨⟨-, -, -, -, -, -, hcode, -, hy, hlen, hl⟩, hin, hse⟩ := cw
  obtain ⟨hx, hb, hml, ho, -⟩ := S
  obtain ⟨-, ⟨cellB, hcB, hoB, hclB⟩, hPc⟩ := hp
  intro T hT X
  rcases vx_callV X hx (C := C) (bytes := bytes) (maxL := maxL) (ret := ret) ho hl hin hse hcode hy hK (by rw [hT]; exact hcB) hoB hclB hg (hsize.trans hml.symm) (argsL := As) (rest := rest) (fun sig h => hn.trans (hlen sig h)) hstack hW (by rw [hb]; exact hdg)
    (fun vm₁ hW₁ => ⟨hf.1, hf.2, hPc (T.setVm vm₁) hT hW₁⟩) with ⟨v, vm₁, ⟨U', l2, c2, s2⟩, hW₁, X', ⟨g', mk, t, L, e1, e2, hq, h1, hL, h2, h3⟩, st⟩ | ⟨q, vm₁, ⟨U', l2, c2, s2⟩, hW₁, X', ⟨g', mk, t, L, E, ce, e1, e2, hq, hce, hcv, hcl, h1, hL, h2, h3⟩, st⟩
  · dsimp only [Pt.U, Pt.locs, Pt.cells, Pt.slots] at X' e1 e2 h1 h2 h3 st
    subst h1; subst h2; subst h3
    exact Or.inl ⟨v, (T.setVm vm₁).calling g' mk (Value.ref b :: As).toArray, t, U', L, hT, X', hL, e1, e2, hq, st⟩
  · dsimp only [Pt.U, Pt.locs, Pt.cells, Pt.slots] at X' e1 e2 h1 h2 h3 st hcl
    subst h1; subst h2; subst h3
    exact Or.inr ⟨q, (T.setVm vm₁).calling g' mk (Value.ref b :: As).toArray, t, U', L, E, ce, hT, X', hL, e1, e2, hq, hce, hcv, vx_cls hW₁ hcl, st⟩
theorem vx_runS (S : CallFix p m c cc nL s args Ts own) (hM : vx_Met l y ws rm Pc Qc XC mc ms free) (cw : CallB R s args own index y bytes maxL ret ws rm mc ms n ∧ (Cond.static y).before args s = true) (hp : PreS s H Pc As)
    (hg : g.method = m) (hn : As.length = n) (hsize : g.locals.size = nL) (hstack : g.stack = As.reverse ++ rest) (hW : 2 * g.monitorRoom + (rest.map fun v => v.category).sum ≤ 8) (hdg : decode cc g.pc = .ok (.invokestatic index, 3)) (hf : cells + mc ≤ R.cells ∧ slots + ms ≤ R.slots) :
    vx_Run p l e R s m args below meth c H locs cells slots mc ms g rest (Qc As.toArray) XC free := by
  have hK : vx_Back l R p e below s args y 3 8 (PreOf R mc ms Pc) (PostOf Qc mc ms free) (vx_Post XC mc ms free) := vx_callBack cw.1 hM hp.1
  obtain ⟨⟨-, -, -, -, -, -, hcode, hini, hy, hlen, hl⟩, hstt⟩ := cw
  obtain ⟨hx, hb, hml, ho, -⟩ := S
  intro T hT X
  rcases vx_callS X hx (bytes := bytes) (maxL := maxL) (ret := ret) ho hl hstt hini hcode hy hK hg (hsize.trans hml.symm) (argsL := As) (rest := rest) (fun sig h => hn.trans (hlen sig h)) hstack hW (by rw [hb]; exact hdg)
    (fun vm₁ hW₁ => ⟨hf.1, hf.2, hp.2 (T.setVm vm₁) hT hW₁⟩) with ⟨v, vm₁, ⟨U', l2, c2, s2⟩, hW₁, X', ⟨g', mk, t, L, e1, e2, hq, h1, hL, h2, h3⟩, st⟩ | ⟨q, vm₁, ⟨U', l2, c2, s2⟩, hW₁, X', ⟨g', mk, t, L, E, ce, e1, e2, hq, hce, hcv, hcl, h1, hL, h2, h3⟩, st⟩
  · dsimp only [Pt.U, Pt.locs, Pt.cells, Pt.slots] at X' e1 e2 h1 h2 h3 st
    subst h1; subst h2; subst h3
    exact Or.inl ⟨v, (T.setVm vm₁).calling g' mk As.toArray, t, U', L, hT, X', hL, e1, e2, hq, st⟩
  · dsimp only [Pt.U, Pt.locs, Pt.cells, Pt.slots] at X' e1 e2 h1 h2 h3 st hcl
    subst h1; subst h2; subst h3
    exact Or.inr ⟨q, (T.setVm vm₁).calling g' mk As.toArray, t, U', L, E, ce, hT, X', hL, e1, e2, hq, hce, hcv, vx_cls hW₁ hcl, st⟩
end Runs
section Rows
variable {p : Program} {l : Launch} {e : Env} {R : Room} {s : State} {m : MethodId} {args : Array Value} {below : List Frame} {meth : Method} {c : Code} {H : Heap} {locs : List Loc} {cells slots : Nat} {Q : State → Prop}
variable {mc ms : Nat} {free : Addr → Prop} {A0 A1 : Nat → Prop} {H0 : Heap} {a : Array Value} {pc : Nat} {ls : Array Slot} {st0 rest : List Value}
theorem vx_keep {st₀ t T' : State} {L : List Loc} (h0 : st₀.heap = H) (e1 : T'.heap = t.heap) (hS : va_S A0 H0 H locs) (hA : ∀ q, q < H.size → A1 q → A0 q) (hf : ∀ q, free q → A0 q) (hL : ∀ q ∈ L, free q.base) (hF : va_F A1 st₀ t) :
    H.size ≤ T'.heap.size ∧ (∀ q : Nat, q < H.size → ¬ A1 q → T'.heap[q]? = H[q]?) ∧ va_S A0 H0 T'.heap (locs ++ L) := by
  obtain ⟨hz, hk⟩ := hF
  rw [h0] at hz hk
  exact ⟨by rw [e1]; exact hz, fun q h1 h2 => by rw [e1]; exact hk q h1 h2,
    ⟨Nat.le_trans hS.1 (by rw [e1]; exact hz), fun q h1 h2 => by rw [e1, hk q (Nat.lt_of_lt_of_le h1 hS.1) (fun z => h2 (hA q (Nat.lt_of_lt_of_le h1 hS.1) z))]; exact hS.2.1 q h1 h2, fun q hq => by
      rcases List.mem_append.mp hq with h | h
      · exact hS.2.2 q h
      · exact hf _ (hL q h)⟩⟩
theorem vx_calli {S SX : Type} {post : Int32 → S → Prop} {px : SX → Prop} {B : S → State → Prop} {BX : String → SX → State → Prop} {AX : Nat → Prop} (hr : vx_Run p l e R s m args below meth c H locs cells slots mc ms (F0 m pc ls st0) rest (va_Qi post B A1 a) (vx_X px BX AX) free) (hS : va_S A0 H0 H locs) (hA : ∀ q, q < H.size → A1 q → A0 q) (hf : ∀ q, free q → A0 q) (hAX : ∀ q, q < H.size → AX q → A0 q)
    (kx : ∀ (E : String) (ce : Cell) (q9 : Addr) (u : SX) (t : State) (H1 : Heap) (locs1 : List Loc), t.heap = H1 → s.vm.Alike t.vm → px u → BX E u t → H.size ≤ H1.size → (∀ q : Nat, q < H.size → ¬ AX q → H1[q]? = H[q]?) → va_S A0 H0 H1 locs1 → H1[q9]? = some ce → ce.vm = .none → s.vm.findClass E = some ce.cls → vx_W p l e R s m args below meth c H1 locs1 (cells + mc) (slots + ms) Q (F0 m pc ls rest) q9)
    (kk : ∀ (r : Int32) (u : S) (t : State) (H1 : Heap) (locs1 : List Loc), t.heap = H1 → s.vm.Alike t.vm → post r u → B u t → H.size ≤ H1.size → (∀ q : Nat, q < H.size → ¬ A1 q → H1[q]? = H[q]?) → va_S A0 H0 H1 locs1 → W p l e R s m args below meth c H1 locs1 (cells + mc) (slots + ms) Q (F0 m (pc + 3) ls (.int r :: rest))) : W p l e R s m args below meth c H locs cells slots Q (F0 m pc ls st0) := by
  intro T hT X
  rcases hr T hT X with ⟨v, st₀, t, T', L, h0, X', hL, e1, e2, ⟨⟨r, u, hv, hp, hb⟩, hF⟩, st⟩ | ⟨q, st₀, t, T', L, E, ce, h0, X', hL, e1, e2, ⟨u, hp, hb, hF⟩, hce, hcv, hcl, st⟩
  · cases hv
    obtain ⟨k1, k2, k3⟩ := vx_keep h0 e1 hS hA hf hL hF
    obtain ⟨t2, a1, b1⟩ := kk r u t T'.heap (locs ++ L) e1.symm (by rw [← e2]; exact X'.warmed.alike) hp hb k1 k2 k3 T' rfl X'
    exact ⟨t2, st t2 a1, b1⟩
  · obtain ⟨k1, k2, k3⟩ := vx_keep h0 e1 hS hAX hf hL hF
    obtain ⟨t2, a1, b1⟩ := kx E ce q u t T'.heap (locs ++ L) e1.symm (by rw [← e2]; exact X'.warmed.alike) hp hb k1 k2 k3 (by rw [e1]; exact hce) hcv hcl T' rfl X'
    exact ⟨t2, st.trans a1, b1⟩
theorem vx_calll {S SX : Type} {post : Int64 → S → Prop} {px : SX → Prop} {B : S → State → Prop} {BX : String → SX → State → Prop} {AX : Nat → Prop} (hr : vx_Run p l e R s m args below meth c H locs cells slots mc ms (F0 m pc ls st0) rest (va_Ql post B A1 a) (vx_X px BX AX) free) (hS : va_S A0 H0 H locs) (hA : ∀ q, q < H.size → A1 q → A0 q) (hf : ∀ q, free q → A0 q) (hAX : ∀ q, q < H.size → AX q → A0 q)
    (kx : ∀ (E : String) (ce : Cell) (q9 : Addr) (u : SX) (t : State) (H1 : Heap) (locs1 : List Loc), t.heap = H1 → s.vm.Alike t.vm → px u → BX E u t → H.size ≤ H1.size → (∀ q : Nat, q < H.size → ¬ AX q → H1[q]? = H[q]?) → va_S A0 H0 H1 locs1 → H1[q9]? = some ce → ce.vm = .none → s.vm.findClass E = some ce.cls → vx_W p l e R s m args below meth c H1 locs1 (cells + mc) (slots + ms) Q (F0 m pc ls rest) q9)
    (kk : ∀ (r : Int64) (u : S) (t : State) (H1 : Heap) (locs1 : List Loc), t.heap = H1 → s.vm.Alike t.vm → post r u → B u t → H.size ≤ H1.size → (∀ q : Nat, q < H.size → ¬ A1 q → H1[q]? = H[q]?) → va_S A0 H0 H1 locs1 → W p l e R s m args below meth c H1 locs1 (cells + mc) (slots + ms) Q (F0 m (pc + 3) ls (.long r :: rest))) : W p l e R s m args below meth c H locs cells slots Q (F0 m pc ls st0) := by
  intro T hT X
  rcases hr T hT X with ⟨v, st₀, t, T', L, h0, X', hL, e1, e2, ⟨⟨r, u, hv, hp, hb⟩, hF⟩, st⟩ | ⟨q, st₀, t, T', L, E, ce, h0, X', hL, e1, e2, ⟨u, hp, hb, hF⟩, hce, hcv, hcl, st⟩
  · cases hv
    obtain ⟨k1, k2, k3⟩ := vx_keep h0 e1 hS hA hf hL hF
    obtain ⟨t2, a1, b1⟩ := kk r u t T'.heap (locs ++ L) e1.symm (by rw [← e2]; exact X'.warmed.alike) hp hb k1 k2 k3 T' rfl X'
    exact ⟨t2, st t2 a1, b1⟩
  · obtain ⟨k1, k2, k3⟩ := vx_keep h0 e1 hS hAX hf hL hF
    obtain ⟨t2, a1, b1⟩ := kx E ce q u t T'.heap (locs ++ L) e1.symm (by rw [← e2]; exact X'.warmed.alike) hp hb k1 k2 k3 (by rw [e1]; exact hce) hcv hcl T' rfl X'
    exact ⟨t2, st.trans a1, b1⟩
theorem vx_callf {S SX : Type} {post : UInt32 → S → Prop} {px : SX → Prop} {B : S → State → Prop} {BX : String → SX → State → Prop} {AX : Nat → Prop} (hr : vx_Run p l e R s m args below meth c H locs cells slots mc ms (F0 m pc ls st0) rest (va_Qf post B A1 a) (vx_X px BX AX) free) (hS : va_S A0 H0 H locs) (hA : ∀ q, q < H.size → A1 q → A0 q) (hf : ∀ q, free q → A0 q) (hAX : ∀ q, q < H.size → AX q → A0 q)
    (kx : ∀ (E : String) (ce : Cell) (q9 : Addr) (u : SX) (t : State) (H1 : Heap) (locs1 : List Loc), t.heap = H1 → s.vm.Alike t.vm → px u → BX E u t → H.size ≤ H1.size → (∀ q : Nat, q < H.size → ¬ AX q → H1[q]? = H[q]?) → va_S A0 H0 H1 locs1 → H1[q9]? = some ce → ce.vm = .none → s.vm.findClass E = some ce.cls → vx_W p l e R s m args below meth c H1 locs1 (cells + mc) (slots + ms) Q (F0 m pc ls rest) q9)
    (kk : ∀ (r : UInt32) (u : S) (t : State) (H1 : Heap) (locs1 : List Loc), t.heap = H1 → s.vm.Alike t.vm → post r u → B u t → H.size ≤ H1.size → (∀ q : Nat, q < H.size → ¬ A1 q → H1[q]? = H[q]?) → va_S A0 H0 H1 locs1 → W p l e R s m args below meth c H1 locs1 (cells + mc) (slots + ms) Q (F0 m (pc + 3) ls (.float r :: rest))) : W p l e R s m args below meth c H locs cells slots Q (F0 m pc ls st0) := by
  intro T hT X
  rcases hr T hT X with ⟨v, st₀, t, T', L, h0, X', hL, e1, e2, ⟨⟨r, u, hv, hp, hb⟩, hF⟩, st⟩ | ⟨q, st₀, t, T', L, E, ce, h0, X', hL, e1, e2, ⟨u, hp, hb, hF⟩, hce, hcv, hcl, st⟩
  · cases hv
    obtain ⟨k1, k2, k3⟩ := vx_keep h0 e1 hS hA hf hL hF
    obtain ⟨t2, a1, b1⟩ := kk r u t T'.heap (locs ++ L) e1.symm (by rw [← e2]; exact X'.warmed.alike) hp hb k1 k2 k3 T' rfl X'
    exact ⟨t2, st t2 a1, b1⟩
  · obtain ⟨k1, k2, k3⟩ := vx_keep h0 e1 hS hAX hf hL hF
    obtain ⟨t2, a1, b1⟩ := kx E ce q u t T'.heap (locs ++ L) e1.symm (by rw [← e2]; exact X'.warmed.alike) hp hb k1 k2 k3 (by rw [e1]; exact hce) hcv hcl T' rfl X'
    exact ⟨t2, st.trans a1, b1⟩
theorem vx_calld {S SX : Type} {post : UInt64 → S → Prop} {px : SX → Prop} {B : S → State → Prop} {BX : String → SX → State → Prop} {AX : Nat → Prop} (hr : vx_Run p l e R s m args below meth c H locs cells slots mc ms (F0 m pc ls st0) rest (va_Qd post B A1 a) (vx_X px BX AX) free) (hS : va_S A0 H0 H locs) (hA : ∀ q, q < H.size → A1 q → A0 q) (hf : ∀ q, free q → A0 q) (hAX : ∀ q, q < H.size → AX q → A0 q)
    (kx : ∀ (E : String) (ce : Cell) (q9 : Addr) (u : SX) (t : State) (H1 : Heap) (locs1 : List Loc), t.heap = H1 → s.vm.Alike t.vm → px u → BX E u t → H.size ≤ H1.size → (∀ q : Nat, q < H.size → ¬ AX q → H1[q]? = H[q]?) → va_S A0 H0 H1 locs1 → H1[q9]? = some ce → ce.vm = .none → s.vm.findClass E = some ce.cls → vx_W p l e R s m args below meth c H1 locs1 (cells + mc) (slots + ms) Q (F0 m pc ls rest) q9)
    (kk : ∀ (r : UInt64) (u : S) (t : State) (H1 : Heap) (locs1 : List Loc), t.heap = H1 → s.vm.Alike t.vm → post r u → B u t → H.size ≤ H1.size → (∀ q : Nat, q < H.size → ¬ A1 q → H1[q]? = H[q]?) → va_S A0 H0 H1 locs1 → W p l e R s m args below meth c H1 locs1 (cells + mc) (slots + ms) Q (F0 m (pc + 3) ls (.double r :: rest))) : W p l e R s m args below meth c H locs cells slots Q (F0 m pc ls st0) := by
  intro T hT X
  rcases hr T hT X with ⟨v, st₀, t, T', L, h0, X', hL, e1, e2, ⟨⟨r, u, hv, hp, hb⟩, hF⟩, st⟩ | ⟨q, st₀, t, T', L, E, ce, h0, X', hL, e1, e2, ⟨u, hp, hb, hF⟩, hce, hcv, hcl, st⟩
  · cases hv
    obtain ⟨k1, k2, k3⟩ := vx_keep h0 e1 hS hA hf hL hF
    obtain ⟨t2, a1, b1⟩ := kk r u t T'.heap (locs ++ L) e1.symm (by rw [← e2]; exact X'.warmed.alike) hp hb k1 k2 k3 T' rfl X'
    exact ⟨t2, st t2 a1, b1⟩
  · obtain ⟨k1, k2, k3⟩ := vx_keep h0 e1 hS hAX hf hL hF
    obtain ⟨t2, a1, b1⟩ := kx E ce q u t T'.heap (locs ++ L) e1.symm (by rw [← e2]; exact X'.warmed.alike) hp hb k1 k2 k3 (by rw [e1]; exact hce) hcv hcl T' rfl X'
    exact ⟨t2, st.trans a1, b1⟩
theorem vx_callv {S SX : Type} {post : S → Prop} {px : SX → Prop} {B : S → State → Prop} {BX : String → SX → State → Prop} {AX : Nat → Prop} (hr : vx_Run p l e R s m args below meth c H locs cells slots mc ms (F0 m pc ls st0) rest (va_Qv post B A1 a) (vx_X px BX AX) free) (hS : va_S A0 H0 H locs) (hA : ∀ q, q < H.size → A1 q → A0 q) (hf : ∀ q, free q → A0 q) (hAX : ∀ q, q < H.size → AX q → A0 q)
    (kx : ∀ (E : String) (ce : Cell) (q9 : Addr) (u : SX) (t : State) (H1 : Heap) (locs1 : List Loc), t.heap = H1 → s.vm.Alike t.vm → px u → BX E u t → H.size ≤ H1.size → (∀ q : Nat, q < H.size → ¬ AX q → H1[q]? = H[q]?) → va_S A0 H0 H1 locs1 → H1[q9]? = some ce → ce.vm = .none → s.vm.findClass E = some ce.cls → vx_W p l e R s m args below meth c H1 locs1 (cells + mc) (slots + ms) Q (F0 m pc ls rest) q9)
    (kk : ∀ (u : S) (t : State) (H1 : Heap) (locs1 : List Loc), t.heap = H1 → s.vm.Alike t.vm → post u → B u t → H.size ≤ H1.size → (∀ q : Nat, q < H.size → ¬ A1 q → H1[q]? = H[q]?) → va_S A0 H0 H1 locs1 → W p l e R s m args below meth c H1 locs1 (cells + mc) (slots + ms) Q (F0 m (pc + 3) ls (rest))) : W p l e R s m args below meth c H locs cells slots Q (F0 m pc ls st0) := by
  intro T hT X
  rcases hr T hT X with ⟨v, st₀, t, T', L, h0, X', hL, e1, e2, ⟨⟨u, hv, hp, hb⟩, hF⟩, st⟩ | ⟨q, st₀, t, T', L, E, ce, h0, X', hL, e1, e2, ⟨u, hp, hb, hF⟩, hce, hcv, hcl, st⟩
  · cases hv
    obtain ⟨k1, k2, k3⟩ := vx_keep h0 e1 hS hA hf hL hF
    obtain ⟨t2, a1, b1⟩ := kk u t T'.heap (locs ++ L) e1.symm (by rw [← e2]; exact X'.warmed.alike) hp hb k1 k2 k3 T' rfl X'
    exact ⟨t2, st t2 a1, b1⟩
  · obtain ⟨k1, k2, k3⟩ := vx_keep h0 e1 hS hAX hf hL hF
    obtain ⟨t2, a1, b1⟩ := kx E ce q u t T'.heap (locs ++ L) e1.symm (by rw [← e2]; exact X'.warmed.alike) hp hb k1 k2 k3 (by rw [e1]; exact hce) hcv hcl T' rfl X'
    exact ⟨t2, st.trans a1, b1⟩
/-- caught by the row x of this method's table; the rows ahead don't take it -/
theorem vx_catch {own name : String} {E : String} {ce : Cell} {q : Addr} (hown : s.vm.findClass own = some m.cls) (pre : List ExceptionTableEntry) (x : ExceptionTableEntry) (suf : List ExceptionTableEntry) (hsplit : c.exceptionTable.toList = pre ++ x :: suf)
    (hpass : ∀ z ∈ pre, covers z pc = false ∨ (z.catchType ≠ 0 ∧ ∃ nm : String, (Cond.classLink own z.catchType nm).before args s = true ∧ va_Nc E nm s)) (hx : covers x pc = true) (h0 : x.catchType ≠ 0)
    (hlink : (Cond.classLink own x.catchType name).before args s = true) (hcast : (Cond.castable E name).before args s = true) (hcell : H[q]? = some ce) (hv : ce.vm = .none) (hcl : s.vm.findClass E = some ce.cls)
    (kk : W p l e R s m args below meth c H locs cells slots Q (F0 m x.handlerPc ls [.ref q])) : vx_W p l e R s m args below meth c H locs cells slots Q (F0 m pc ls rest) q := by
  intro T hT X
  have hpl : e.platform.magicAccessors = ({} : Platform).magicAccessors := by rw [X.admits.platform]
  obtain ⟨c3, c4, hc3, hc4, hasg⟩ := Cond.castable_spec hcast
  cases Option.some.inj (hc3.symm.trans hcl)
  obtain ⟨c5, hc5, hcl5⟩ := Cond.classLink_spec hown hlink e.platform hpl
  cases Option.some.inj (hc4.symm.trans hc5)
  obtain ⟨vm', X', st⟩ := X.thenCaughtThrough q (g := F0 m pc ls rest) rfl (Steps.refl _) (by rw [hT]; exact hcell) (by rw [hv]; rfl) (by obtain ⟨k9, h9, -⟩ := Vm.findClass_spec hcl; exact ⟨k9, h9⟩) pre x suf hsplit
    (fun z hz => by
      rcases hpass z hz with h | ⟨hz0, nm, hl1, hn1⟩
      · exact Or.inl h
      · obtain ⟨c6, hc6, hcl6⟩ := Cond.classLink_spec hown hl1 e.platform hpl
        obtain ⟨a8, b8, h1, h2, h3⟩ := hn1
        cases Option.some.inj (h1.symm.trans hcl)
        cases Option.some.inj (h2.symm.trans hc6)
        exact Or.inr ⟨hz0, _, hcl6, h3⟩) hx (Or.inr ⟨h0, c4, hcl5, hasg⟩)
  obtain ⟨t, a1, b1⟩ := kk (T.setVm vm') hT X'
  exact ⟨t, st.trans a1, b1⟩
end Rows
section Ends
variable {p : Program} {l : Launch} {e : Env} {R : Room} {s : State} {m : MethodId} {args : Array Value} {below : List Frame} {meth : Method} {c : Code} {H : Heap} {locs : List Loc} {cells slots : Nat} {Q : State → Prop}
variable {mc ms : Nat} {free : Addr → Prop} {A0 A1 : Nat → Prop} {H0 : Heap} {a : Array Value} {ls : Array Slot} {st0 rest : List Value}
variable {Qc : Array Value → State → Outcome → State → Prop} {XC : String → State → State → Prop}
/-- what a body that may throw owes at its end -/
def vx_MQ (below : List Frame) (Qc : Array Value → State → Outcome → State → Prop) (XC : String → State → State → Prop) (a : Array Value) (s : State) (mc ms : Nat) (free : Addr → Prop) : State → Prop := fun t =>
  ∃ o, t.status = .running ∧ Ended t below o ∧ vx_Q Qc XC mc ms free a s o t
theorem vx_ret {g : JFrame} {mc ms : Nat} (k : W p l e R s m args below meth c H locs cells slots (MQ below Qc args s mc ms free) g) : W p l e R s m args below meth c H locs cells slots (vx_MQ below Qc XC args s mc ms free) g := by
  intro T hT X
  obtain ⟨t, a1, o, b1, b2, b3, b4⟩ := k T hT X
  exact ⟨t, a1, o, b1, b2, Or.inl ⟨b3, b4⟩⟩
/-- not caught here: it goes on to the caller -/
theorem vx_widen {g : JFrame} {q : Addr} {k n : Nat} (h1 : cells ≤ k) (h2 : slots ≤ n) (kk : vx_W p l e R s m args below meth c H locs k n Q g q) : vx_W p l e R s m args below meth c H locs cells slots Q g q := fun T hT X => kk T hT (stand_widen X h1 h2)
theorem vx_out {pc : Nat} {E : String} {ce : Cell} {q : Addr} {mc ms : Nat} (hout : ∀ x ∈ c.exceptionTable.toList, covers x pc = false) (hlocks : meth.locks = false) (hcell : H[q]? = some ce) (hv : ce.vm = .none) (hcl : s.vm.findClass E = some ce.cls)
    (hx : ∀ t : State, t.heap = H → s.vm.Alike t.vm → XC E s t) (hf : ∀ z ∈ locs, free z.base) (hc : cells ≤ mc) (hs : slots ≤ ms) :
    vx_W p l e R s m args below meth c H locs cells slots (vx_MQ below Qc XC args s mc ms free) (F0 m pc ls rest) q := by
  intro T hT X
  obtain ⟨st1, hrun, hend, hW, hsm⟩ := X.leaveThrown q (g := F0 m pc ls rest) rfl rfl rfl hout hlocks
  have hcell9 : (T.setFrames (.throwing q :: below)).heap[q]? = some ce := by
    show T.heap[q]? = some ce
    rw [hT]; exact hcell
  exact ⟨_, st1, .threw q, hrun, hend, Or.inr ⟨q, rfl, E, ce, locs, hx _ hT hW.alike, hcell9, hv, hcl, hW, hsm.mono hc hs, hf⟩⟩
theorem vx_frame {U : State} {k n : Nat} (h : s.sameButNew ({ U with vm := s.vm } : State) locs k n) : s.heap.size ≤ U.heap.size ∧ ∀ q : Nat, q < s.heap.size → (∀ z ∈ locs, z.base ≠ q) → U.heap[q]? = s.heap[q]? := by
  obtain ⟨-, h2, -, -, -, h6⟩ := h
  refine ⟨h2, fun q hq hz => ?_⟩
  obtain ⟨c9, e1, e2, e3, e4⟩ := h6 q _ (Array.getElem?_eq_getElem hq)
  have hs : c9.slots = (s.heap[q]).slots := Array.ext_getElem? fun i => e4 i fun hm => hz _ hm rfl
  have h9 : c9 = s.heap[q] := by
    rw [hs] at e2
    exact e2
  have e5 : U.heap[q]? = some c9 := e1
  rw [e5, h9, Array.getElem?_eq_getElem hq]
/-- the words of a throw but the four that speak of the heap -/
def vx_no (w : Cond) : Bool := decide (w ≠ .isRef (.static Bundle.tN "UNASSIGNED_STACK" Bundle.steD)) && decide (w ≠ .isRef (.static Bundle.tN "SUPPRESSED_SENTINEL" Bundle.listD)) && decide (w ≠ .laysStatic Bundle.tN "UNASSIGNED_STACK" Bundle.steD) && decide (w ≠ .laysStatic Bundle.tN "SUPPRESSED_SENTINEL" Bundle.listD)
def vx_at0 (own : String) (ic : Nat) (X : String) (names : List String) : List Cond := (Bundle.ownAtoms0 own ic X names).filter vx_no
def vx_atS (own : String) (ic : Nat) (X : String) (names : List String) : List Cond := (Bundle.ownAtoms own ic X names).filter vx_no
/-- a word that the tables alone decide, or a good one -/
def vx_ot (w : Cond) : Bool := w.onTables || goodWord w
theorem vx_ot_at {args a' : Array Value} {s U : State} {w : Cond} (hW : s.WarmedH U.vm) (hvm : s.vm = U.vm) (hg : vx_ot w = true) (h : w.before args s = true) : w.before a' U = true := by
  simp only [vx_ot, Bool.or_eq_true] at hg
  rcases hg with hg | hg
  · exact va_tabs hg hvm h
  · exact word_at hW (good_of_word hg) h
/-- a list's words: the good ones out of the method's own list, the others by premises of their own -/
theorem vx_hat {args : Array Value} {s : State} {L B : List Cond} (h1 : ∀ w ∈ L.filter goodWord, w.before args s = true) (h2 : ∀ w ∈ L.filter (fun w => !goodWord w), w ∈ B) (h3 : ∀ w ∈ B, w.before args s = true) : ∀ w ∈ L, w.before args s = true := by
  intro w hw
  by_cases g : goodWord w = true
  · exact h1 w (List.mem_filter.mpr ⟨hw, g⟩)
  · refine h3 w (h2 w (List.mem_filter.mpr ⟨hw, ?_⟩))
    show (!goodWord w) = true
    cases hgw : goodWord w
    · rfl
    · exact absurd hgw g
theorem vx_c {args : Array Value} {s : State} {w : Cond} {B : List Cond} (h : w.before args s = true) (t : ∀ w ∈ B, w.before args s = true) : ∀ w' ∈ w :: B, w'.before args s = true := fun w' h' => (List.mem_cons.mp h').elim (fun e => by rw [e]; exact h) (t w')
theorem vx_n {args : Array Value} {s : State} : ∀ w ∈ ([] : List Cond), w.before args s = true := fun _ h => nomatch h
theorem vx_own {args : Array Value} {s : State} {L : List Cond} (h1 : ∀ w ∈ L.filter vx_no, w.before args s = true)
    (hU : (Cond.isRef (.static Bundle.tN "UNASSIGNED_STACK" Bundle.steD)).before args s = true) (hN : (Cond.isRef (.static Bundle.tN "SUPPRESSED_SENTINEL" Bundle.listD)).before args s = true)
    (lU : (Cond.laysStatic Bundle.tN "UNASSIGNED_STACK" Bundle.steD).before args s = true) (lN : (Cond.laysStatic Bundle.tN "SUPPRESSED_SENTINEL" Bundle.listD).before args s = true) : ∀ w ∈ L, w.before args s = true := by
  intro w hw
  by_cases e1 : w = .isRef (.static Bundle.tN "UNASSIGNED_STACK" Bundle.steD)
  · rw [e1]; exact hU
  · by_cases e2 : w = .isRef (.static Bundle.tN "SUPPRESSED_SENTINEL" Bundle.listD)
    · rw [e2]; exact hN
    · by_cases e3 : w = .laysStatic Bundle.tN "UNASSIGNED_STACK" Bundle.steD
      · rw [e3]; exact lU
      · by_cases e4 : w = .laysStatic Bundle.tN "SUPPRESSED_SENTINEL" Bundle.listD
        · rw [e4]; exact lN
        · exact h1 w (List.mem_filter.mpr ⟨hw, by unfold vx_no; rw [decide_eq_true e1, decide_eq_true e2, decide_eq_true e3, decide_eq_true e4]; rfl⟩)
/-- where a static field lies, its class's statics cell in H -/
def vx_L (C n d : String) (A : Nat → Prop) (U : State) (H : Heap) : Prop := ∃ (c : ClassId) (k : Class) (i : Nat) (f : Field) (a : Nat) (cell : Cell), U.vm.findClass C = some c ∧ U.fieldFound? C n d = some (c, k, i, f) ∧ f.isStatic = true ∧ k.statics = some a ∧ H[a]? = some cell ∧ cell.vm.isStatics = true ∧ cell.cls = c ∧ f.slot < cell.slots.size ∧ k.staticTypes[f.slot]? = some f.type ∧ ¬ A a
theorem vx_L.moved {C n d : String} {A : Nat → Prop} {u U : State} {H : Heap} (hvm : u.vm.Alike U.vm) (h : vx_L C n d A u H) : vx_L C n d A U H := by
  obtain ⟨c, k, i, f, a, cell, h1, h2, h3, h4, h5, h6, h7, h8, h9, h10⟩ := h
  obtain ⟨k', hi', he⟩ := State.fieldFound?_setVm hvm h2
  exact ⟨c, k', i, f, a, cell, by rw [hvm.findClass]; exact h1, hi', h3, by rw [he]; exact h4, h5, h6, h7, h8, by rw [he]; exact h9, h10⟩
theorem vx_L.kept {C n d : String} {A : Nat → Prop} {U : State} {H H1 : Heap} (h : vx_L C n d A U H) (hq : ∀ a : Nat, a < H.size → ¬ A a → H1[a]? = H[a]?) : vx_L C n d A U H1 := by
  obtain ⟨c, k, i, f, a, cell, h1, h2, h3, h4, h5, h6, h7, h8, h9, h10⟩ := h
  exact ⟨c, k, i, f, a, cell, h1, h2, h3, h4, by rw [hq a (Array.getElem?_eq_some_iff.mp h5).1 h10]; exact h5, h6, h7, h8, h9, h10⟩
theorem vx_L.narrow {C n d : String} {A B : Nat → Prop} {U : State} {H : Heap} (h : vx_L C n d A U H) (hAB : ∀ q, B q → A q) : vx_L C n d B U H := by
  obtain ⟨c, k, i, f, a, cell, h1, h2, h3, h4, h5, h6, h7, h8, h9, h10⟩ := h
  exact ⟨c, k, i, f, a, cell, h1, h2, h3, h4, h5, h6, h7, h8, h9, fun z => h10 (hAB _ z)⟩
theorem vx_L.word {C n d : String} {A : Nat → Prop} {s : State} {args : Array Value} (h : vx_L C n d A s s.heap) : (Cond.laysStatic C n d).before args s = true := by
  obtain ⟨c, k, i, f, a, cell, h1, h2, h3, h4, h5, h6, h7, h8, h9, -⟩ := h
  show (Cond.laysStatic C n d).holds args s none s [] = true
  exact Cond.laysStatic_of h1 h2 h3 h4 h5 h6 h7 h8 h9
/-- .. and what it holds: null or some reference -/
def vx_Zq (C n d : String) (A : Nat → Prop) (U : State) (H : Heap) : Prop := va_Zq C n d A U H ∧ vx_L C n d A U H
theorem vx_Zq.moved {C n d : String} {A : Nat → Prop} {u U : State} {H : Heap} (hvm : u.vm.Alike U.vm) (h : vx_Zq C n d A u H) : vx_Zq C n d A U H := ⟨va_Zq.moved hvm h.1, vx_L.moved hvm h.2⟩
theorem vx_Zq.kept {C n d : String} {A : Nat → Prop} {U : State} {H H1 : Heap} (h : vx_Zq C n d A U H) (hq : ∀ a : Nat, a < H.size → ¬ A a → H1[a]? = H[a]?) : vx_Zq C n d A U H1 := ⟨va_Zq.kept h.1 hq, vx_L.kept h.2 hq⟩
theorem vx_Zq.narrow {C n d : String} {A B : Nat → Prop} {U : State} {H : Heap} (h : vx_Zq C n d A U H) (hAB : ∀ q, B q → A q) : vx_Zq C n d B U H := ⟨va_Zq.narrow h.1 hAB, vx_L.narrow h.2 hAB⟩
theorem vx_Zqof {args : Array Value} {s : State} {C n d : String} {A : Nat → Prop} (hl : (Cond.laysStatic C n d).before args s = true) (hini : (Cond.initialized C).before args s = true) (h : (Cond.isRef (.static C n d)).before args s = true) (hA : ∀ a : Nat, a < s.heap.size → ¬ A a) : vx_Zq C n d A s s.heap := by
  refine ⟨va_Zqof hl hini h hA, ?_⟩
  obtain ⟨c, k, i, f, a, cell, h1, h2, h3, h4, h5, h6, h7, h8, h9⟩ := Cond.laysStatic_spec hl
  exact ⟨c, k, i, f, a, cell, h1, h2, h3, h4, h5, h6, h7, h8, h9, hA a (Array.getElem?_eq_some_iff.mp h5).1⟩
theorem vx_isRef {C n d : String} {v : Value} {A : Nat → Prop} {s : State} {args : Array Value} (h : va_Z C n d v A s s.heap) (hv : v.isRef = true) : (Cond.isRef (.static C n d)).before args s = true := by
  obtain ⟨cf, kf, fi, f, a, cell, h1, h2, h3, h4, h5, h6, h7, -⟩ := h
  have he : (Term.static C n d).eval args s none [] s = some v := by
    simp [Term.eval, State.fieldNamed?, h1, h2, h4, h5, h6, h7]
  simp only [Cond.before, Cond.holds, Cond.value, he]
  cases v <;> simp_all [Value.isRef]
theorem vx_isRefq {C n d : String} {A : Nat → Prop} {s : State} {args : Array Value} (h : va_Zq C n d A s s.heap) : (Cond.isRef (.static C n d)).before args s = true := by
  rcases h with h | ⟨t, h⟩
  · exact vx_isRef h rfl
  · exact vx_isRef h rfl
/-- the same frame, seen from here: as if the method were called anew in this heap -/
theorem vx_rebase {T : State} (X : Stand p l e R s m args below meth c T locs cells slots) {R' : Room} (hf : R'.frames ≤ R.frames) (hl : R'.locals ≤ R.locals) (hc : cells + R'.cells ≤ R.cells) (hs : slots + R'.slots ≤ R.slots) :
    Stand p l e R' ((T.setVm s.vm).setFrames (.invoking m args :: below)) m args below meth c T [] 0 0 := by
  have htop : (T.setVm s.vm).topJava?.isSome := X.here.top
  have hF : ((T.setVm s.vm).setFrames (.invoking m args :: below)).frames = .invoking m args :: below := State.frames_setFrames _ (State.cur_lt_of_top htop)
  obtain ⟨g₀, hg0⟩ := Option.isSome_iff_exists.mp htop
  obtain ⟨r, hr⟩ := State.topJava?_eq_some.mp hg0
  have hl9 : e.platform.stackLimits (T.setVm s.vm).me = e.platform.stackLimits s.me := X.limits
  have hb9 : (T.setVm s.vm).me.stackBytes = s.me.stackBytes := X.bytes
  refine ⟨X.admits, X.cas, X.clock, hF, ?_, X.hears, X.method, X.code, X.here, X.tail, X.warmed, ?_, ?_, ?_⟩
  · have h := X.room
    have hU : ((T.setVm s.vm).setFrames (.invoking m args :: below)).localsInUse = s.localsInUse := by
      rw [State.localsInUse_invoking hF (meth := meth) (c := c) X.method X.code, State.localsInUse_invoking X.frames X.method X.code]
    simp only [State.hasRoom, Bool.and_eq_true, decide_eq_true_eq] at h ⊢
    obtain ⟨⟨⟨⟨h1, h2, h3, h4, h5, h6⟩, h7⟩, h8⟩, h9⟩ := h
    rw [X.frames, List.length_cons] at h2 h3
    have q1 := X.heapSize
    have q2 := X.used
    simp only [hF, hU, List.length_cons, State.stackLimits_setFrames, State.stackBytes_setFrames, hl9, hb9]
    refine ⟨⟨⟨⟨by omega, by omega, by omega, by omega, by omega, h6⟩, ?_⟩, ?_⟩, X.book⟩
    · show T.heap.size + R'.cells ≤ e.platform.maxCells
      omega
    · show T.slotsUsed + R'.slots ≤ e.platform.maxSlots
      omega
  · rw [State.stackLimits_setFrames]; rfl
  · rw [State.stackBytes_setFrames]; rfl
  · refine ⟨?_, Nat.le_refl _, Nat.le_refl _, ?_, ?_, fun a c9 h9 => ⟨c9, h9, rfl, rfl, fun _ _ => rfl⟩⟩
    · obtain ⟨t, ht, -⟩ := State.frames_cons hr
      show T.setVm s.vm = { ((T.setVm s.vm).setFrames (.invoking m args :: below)).setFrames (T.setVm s.vm).frames with heap := T.heap, slotsUsed := T.slotsUsed }
      rw [State.setFrames_setFrames, State.setFrames_self ht]
      rfl
    · show T.slotsUsed = T.slotsUsed + ((T.heap.toList.drop T.heap.size).map (·.slots.size)).sum
      rw [List.drop_eq_nil_of_le (Nat.le_of_eq Array.length_toList)]
      rfl
    · show ((T.heap.toList.drop T.heap.size).map (·.slots.size)).sum ≤ 0
      rw [List.drop_eq_nil_of_le (Nat.le_of_eq Array.length_toList)]
      exact Nat.le_refl _
/-- 'throw new E()': new; dup; invokespecial; athrow -/
theorem vx_throw0 {cc : ByteArray} {pc : Nat} (hexec : p.tables.exec = Jvm.exec) (hb : c.code = cc) (hl : l.stackTraces = false) {own cls : String} {names : List String} {ik ic mc ms : Nat} {A : Nat → Prop}
    (hown : s.vm.findClass own = some m.cls) (hcls : Bundle.fit cls = true) (hnames : ∀ n ∈ names, Bundle.fit n = true)
    (hk : (Cond.classLink own ik cls).before args s = true) (hini : (Cond.initialized cls).before args s = true) (hat : ∀ w ∈ vx_at0 own ic cls names, w.before args s = true)
    (hgood : ∀ w ∈ Cond.classLink own ik cls :: Cond.initialized cls :: vx_at0 own ic cls names, vx_ot w = true)
    (hU : vx_Zq Bundle.tN "UNASSIGNED_STACK" Bundle.steD A s s.heap) (hN : vx_Zq Bundle.tN "SUPPRESSED_SENTINEL" Bundle.listD A s s.heap) (hS : va_S A s.heap H locs) (hsize : ls.size = c.maxLocals)
    (d0 : decode cc pc = .ok (.new ik, 3)) (d3 : decode cc (pc + 3) = .ok (.dup, 1)) (d4 : decode cc (pc + 4) = .ok (.invokespecial ic, 3)) (d7 : decode cc (pc + 7) = .ok (.athrow, 1))
    (hout : ∀ x ∈ c.exceptionTable.toList, covers x (pc + 7) = false)
    (hRframes : names.length + 3 < R.frames) (hRlocals : (rest.map fun v => v.category).sum + (13 * (names.length + 1) + 42) ≤ R.locals) (hRcells : cells + 1 ≤ R.cells) (hRslots : slots + 6 ≤ R.slots) (hlocks : meth.locks = false)
    (hx : ∀ t : State, s.vm.Alike t.vm → H.size ≤ t.heap.size → (∀ q : Nat, q < H.size → t.heap[q]? = H[q]?) → XC cls s t)
    (hf : ∀ z ∈ locs, free z.base) (hc : cells + 1 ≤ mc) (hs : slots + 6 ≤ ms) :
    W p l e R s m args below meth c H locs cells slots (vx_MQ below Qc XC args s mc ms free) (F0 m pc ls rest) := by
  intro T hT X
  have htr : e.platform.stackTraces = false := (show e.platform.stackTraces = l.stackTraces by rw [X.admits.platform]).trans hl
  have Y := vx_rebase X (R' := { frames := R.frames, locals := R.locals, cells := 1, slots := 6 }) (Nat.le_refl _) (Nat.le_refl _) hRcells hRslots
  obtain ⟨s', hA⟩ : ∃ z, z = (T.setVm s.vm).setFrames (.invoking m args :: below) := ⟨_, rfl⟩
  rw [← hA] at Y
  have hvm : s'.vm = s.vm := by rw [hA]; rfl
  have hhp : s'.heap = H := by rw [hA]; exact hT
  have hW0 : s.WarmedH s'.vm := by rw [hvm]; exact State.WarmedH.refl s
  have hat' : ∀ w ∈ vx_at0 own ic cls names, w.before args s' = true := fun w hw => vx_ot_at hW0 hvm.symm (hgood w (List.mem_cons_of_mem _ (List.mem_cons_of_mem _ hw))) (hat w hw)
  have hk' : (Cond.classLink own ik cls).before args s' = true := vx_ot_at hW0 hvm.symm (hgood _ List.mem_cons_self) hk
  have hini' : (Cond.initialized cls).before args s' = true := vx_ot_at hW0 hvm.symm (hgood _ (List.mem_cons_of_mem _ List.mem_cons_self)) hini
  have hU' : vx_Zq Bundle.tN "UNASSIGNED_STACK" Bundle.steD A s' s'.heap := by rw [hhp]; exact vx_Zq.moved hW0.alike (hU.kept hS.2.1)
  have hN' : vx_Zq Bundle.tN "SUPPRESSED_SENTINEL" Bundle.listD A s' s'.heap := by rw [hhp]; exact vx_Zq.moved hW0.alike (hN.kept hS.2.1)
  have h : ∀ w ∈ Bundle.ownAtoms0 own ic cls names, w.before args s' = true := vx_own hat' (vx_isRefq hU'.1) (vx_isRefq hN'.1) hU'.2.word hN'.2.word
  have hown' : s'.vm.findClass own = some m.cls := by rw [hvm]; exact hown
  have hins : (Cond.instantiable cls 6).before args s' = true := h _ (by simp [Bundle.ownAtoms0])
  obtain ⟨vm₁, cX, kX, hfX, hkX, -, -, X₁, st1⟩ := Y.newCold hexec (own := own) (C := cls) (index := ik) (n := 6) hown' hk' hins hini'
    (g := F0 m pc ls rest) rfl (by rw [hb]; exact d0) (Nat.le_refl _) (Nat.le_refl _)
  generalize hT1 : (T.setVm vm₁).pushCell { cls := cX, slots := kX.instanceTypes.map defaultValue, vm := .none } = T1 at X₁ st1
  have hcat : (Value.ref T.heap.size).category = 1 := rfl
  have hcellA : T1.heap[T.heap.size]? = some (freshCell cX kX) := by rw [← hT1]; exact State.heap_pushCell_size _ _
  have d3' : decode c.code (pc + 3) = .ok (.dup, 1) := by rw [hb]; exact d3
  obtain ⟨U, hsteps, hrun, hend, hW, hsame, ce, hce, hO⟩ := X₁.ctorThrow0 hexec htr (own := own) (cls := cls) (names := names) (ic := ic) hown' hcls hnames h (fun x hx => nomatch hx) hfX hkX hcellA (by rw [hhp, hT]; exact Nat.le_refl _)
    (g := { method := m, pc := pc + 4, locals := ls, stack := .ref T.heap.size :: .ref T.heap.size :: rest, locked := none }) rfl hsize rfl rfl (rest := rest) rfl
    (by rw [hb]; exact d4) (by rw [hb]; exact d7) hout hRframes (by simp only [List.map_cons, List.sum_cons, hcat]; omega) hlocks
  obtain ⟨f1, f2⟩ := vx_frame hsame
  rw [hhp] at f1 f2
  have hWs : s.WarmedH U.vm := State.WarmedH.trans hW0 hW
  have hcl : s.vm.findClass cls = some ce.cls := by
    have h9 := hO.cls
    rw [hvm] at h9
    exact h9
  have hall : s.sameButNew ({ U with vm := s.vm } : State) locs mc ms := by
    subst hA
    obtain ⟨e1, e2⟩ := hsame
    rw [State.setFrames_setFrames] at e1
    have h2 : (T.setVm s.vm).sameButNew ({ U with vm := s.vm } : State) [] (0 + 1) (0 + 6) := ⟨e1, e2⟩
    have h3 := X.same.trans h2
    rw [List.append_nil] at h3
    exact h3.mono hc hs
  refine ⟨U, ?_, .threw T.heap.size, hrun, hend, Or.inr ⟨T.heap.size, rfl, cls, ce, locs, hx U hWs.alike f1 (fun q hq => f2 q hq (fun z hz => nomatch hz)), hce, hO.vm, hcl, hWs, hall, hf⟩⟩
  refine st1 _ ?_
  show Steps p.tables e below (T1.setTop { method := m, pc := pc + 3, locals := ls, stack := .ref T.heap.size :: rest, locked := none }) _
  jvm_step X₁.here [X₁.here.top, hexec, d3', Value.category]
  exact hsteps
/-- 'throw new E("text")': new; dup; ldc; invokespecial; athrow -/
theorem vx_throwS {cc : ByteArray} {pc : Nat} (hexec : p.tables.exec = Jvm.exec) (hb : c.code = cc) (hl : l.stackTraces = false) {own cls text : String} {names : List String} {ik is ic mc ms sa : Nat} {A : Nat → Prop}
    (hown : s.vm.findClass own = some m.cls) (hcls : Bundle.fit cls = true) (hnames : ∀ n ∈ names, Bundle.fit n = true)
    (hk : (Cond.classLink own ik cls).before args s = true) (hini : (Cond.initialized cls).before args s = true) (hstr : vk_R own is text sa s) (hat : ∀ w ∈ vx_atS own ic cls names, w.before args s = true)
    (hgood : ∀ w ∈ Cond.classLink own ik cls :: Cond.initialized cls :: vx_atS own ic cls names, vx_ot w = true)
    (hU : vx_Zq Bundle.tN "UNASSIGNED_STACK" Bundle.steD A s s.heap) (hN : vx_Zq Bundle.tN "SUPPRESSED_SENTINEL" Bundle.listD A s s.heap) (hS : va_S A s.heap H locs) (hsize : ls.size = c.maxLocals)
    (d0 : decode cc pc = .ok (.new ik, 3)) (d3 : decode cc (pc + 3) = .ok (.dup, 1)) (d4 : decode cc (pc + 4) = .ok (.ldc is, 2)) (d6 : decode cc (pc + 6) = .ok (.invokespecial ic, 3)) (d9 : decode cc (pc + 9) = .ok (.athrow, 1))
    (hout : ∀ x ∈ c.exceptionTable.toList, covers x (pc + 9) = false)
    (hRframes : names.length + 3 < R.frames) (hRlocals : (rest.map fun v => v.category).sum + (13 * (names.length + 1) + 43) ≤ R.locals) (hRcells : cells + 1 ≤ R.cells) (hRslots : slots + 6 ≤ R.slots) (hlocks : meth.locks = false)
    (hx : ∀ t : State, s.vm.Alike t.vm → H.size ≤ t.heap.size → (∀ q : Nat, q < H.size → t.heap[q]? = H[q]?) → XC cls s t)
    (hf : ∀ z ∈ locs, free z.base) (hc : cells + 1 ≤ mc) (hs : slots + 6 ≤ ms) :
    W p l e R s m args below meth c H locs cells slots (vx_MQ below Qc XC args s mc ms free) (F0 m pc ls rest) := by
  intro T hT X
  have htr : e.platform.stackTraces = false := (show e.platform.stackTraces = l.stackTraces by rw [X.admits.platform]).trans hl
  have Y := vx_rebase X (R' := { frames := R.frames, locals := R.locals, cells := 1, slots := 6 }) (Nat.le_refl _) (Nat.le_refl _) hRcells hRslots
  obtain ⟨s', hA⟩ : ∃ z, z = (T.setVm s.vm).setFrames (.invoking m args :: below) := ⟨_, rfl⟩
  rw [← hA] at Y
  have hvm : s'.vm = s.vm := by rw [hA]; rfl
  have hhp : s'.heap = H := by rw [hA]; exact hT
  have hW0 : s.WarmedH s'.vm := by rw [hvm]; exact State.WarmedH.refl s
  have hat' : ∀ w ∈ vx_atS own ic cls names, w.before args s' = true := fun w hw => vx_ot_at hW0 hvm.symm (hgood w (List.mem_cons_of_mem _ (List.mem_cons_of_mem _ hw))) (hat w hw)
  have hk' : (Cond.classLink own ik cls).before args s' = true := vx_ot_at hW0 hvm.symm (hgood _ List.mem_cons_self) hk
  have hini' : (Cond.initialized cls).before args s' = true := vx_ot_at hW0 hvm.symm (hgood _ (List.mem_cons_of_mem _ List.mem_cons_self)) hini
  have hU' : vx_Zq Bundle.tN "UNASSIGNED_STACK" Bundle.steD A s' s'.heap := by rw [hhp]; exact vx_Zq.moved hW0.alike (hU.kept hS.2.1)
  have hN' : vx_Zq Bundle.tN "SUPPRESSED_SENTINEL" Bundle.listD A s' s'.heap := by rw [hhp]; exact vx_Zq.moved hW0.alike (hN.kept hS.2.1)
  have h : ∀ w ∈ Bundle.ownAtoms own ic cls names, w.before args s' = true := vx_own hat' (vx_isRefq hU'.1) (vx_isRefq hN'.1) hU'.2.word hN'.2.word
  have hown' : s'.vm.findClass own = some m.cls := by rw [hvm]; exact hown
  have hins : (Cond.instantiable cls 6).before args s' = true := h _ (by simp [Bundle.ownAtoms])
  obtain ⟨vm₁, cX, kX, hfX, hkX, -, -, X₁, st1⟩ := Y.newCold hexec (own := own) (C := cls) (index := ik) (n := 6) hown' hk' hins hini'
    (g := F0 m pc ls rest) rfl (by rw [hb]; exact d0) (Nat.le_refl _) (Nat.le_refl _)
  generalize hT1 : (T.setVm vm₁).pushCell { cls := cX, slots := kX.instanceTypes.map defaultValue, vm := .none } = T1 at X₁ st1
  have hcat : (Value.ref T.heap.size).category = 1 := rfl
  have hcellA : T1.heap[T.heap.size]? = some (freshCell cX kX) := by rw [← hT1]; exact State.heap_pushCell_size _ _
  have d3' : decode c.code (pc + 3) = .ok (.dup, 1) := by rw [hb]; exact d3
  have d4' : decode c.code (pc + 4) = .ok (.ldc is, 2) := by rw [hb]; exact d4
  have hstr' : vk_R own is text sa s' := vk_R.warm hW0 hstr
  obtain ⟨U, hsteps, hrun, hend, hW, hsame, ce, hce, hO⟩ := X₁.ctorThrowS hexec htr (own := own) (cls := cls) (names := names) (ic := ic) hown' hcls hnames h (fun x hx => nomatch hx) hfX hkX hcellA (by rw [hhp, hT]; exact Nat.le_refl _) (msg := .ref sa) rfl
    (g := { method := m, pc := pc + 6, locals := ls, stack := .ref sa :: .ref T.heap.size :: .ref T.heap.size :: rest, locked := none }) rfl hsize rfl rfl (rest := rest) rfl
    (by rw [hb]; exact d6) (by rw [hb]; exact d9) hout hRframes (by simp only [List.map_cons, List.sum_cons, hcat]; omega) hlocks
  obtain ⟨f1, f2⟩ := vx_frame hsame
  rw [hhp] at f1 f2
  have hWs : s.WarmedH U.vm := State.WarmedH.trans hW0 hW
  have hcl : s.vm.findClass cls = some ce.cls := by
    have h9 := hO.cls
    rw [hvm] at h9
    exact h9
  have hall : s.sameButNew ({ U with vm := s.vm } : State) locs mc ms := by
    subst hA
    obtain ⟨e1, e2⟩ := hsame
    rw [State.setFrames_setFrames] at e1
    have h2 : (T.setVm s.vm).sameButNew ({ U with vm := s.vm } : State) [] (0 + 1) (0 + 6) := ⟨e1, e2⟩
    have h3 := X.same.trans h2
    rw [List.append_nil] at h3
    exact h3.mono hc hs
  refine ⟨U, ?_, .threw T.heap.size, hrun, hend, Or.inr ⟨T.heap.size, rfl, cls, ce, locs, hx U hWs.alike f1 (fun q hq => f2 q hq (fun z hz => nomatch hz)), hce, hO.vm, hcl, hWs, hall, hf⟩⟩
  refine st1 _ ?_
  show Steps p.tables e below (T1.setTop { method := m, pc := pc + 3, locals := ls, stack := .ref T.heap.size :: rest, locked := none }) _
  jvm_step X₁.here [X₁.here.top, hexec, d3', Value.category]
  exact X₁.ldcString hexec (own := own) (text := text) (index := is) (a := sa) hown' hstr'.1 hstr'.2
    (g := { method := m, pc := pc + 4, locals := ls, stack := .ref T.heap.size :: .ref T.heap.size :: rest, locked := none }) rfl d4' _ hsteps
/-- 'throw new E("text")', the text by a wide index -/
theorem vx_throwSW {cc : ByteArray} {pc : Nat} (hexec : p.tables.exec = Jvm.exec) (hb : c.code = cc) (hl : l.stackTraces = false) {own cls text : String} {names : List String} {ik is ic mc ms sa : Nat} {A : Nat → Prop}
    (hown : s.vm.findClass own = some m.cls) (hcls : Bundle.fit cls = true) (hnames : ∀ n ∈ names, Bundle.fit n = true)
    (hk : (Cond.classLink own ik cls).before args s = true) (hini : (Cond.initialized cls).before args s = true) (hstr : vk_R own is text sa s) (hat : ∀ w ∈ vx_atS own ic cls names, w.before args s = true)
    (hgood : ∀ w ∈ Cond.classLink own ik cls :: Cond.initialized cls :: vx_atS own ic cls names, vx_ot w = true)
    (hU : vx_Zq Bundle.tN "UNASSIGNED_STACK" Bundle.steD A s s.heap) (hN : vx_Zq Bundle.tN "SUPPRESSED_SENTINEL" Bundle.listD A s s.heap) (hS : va_S A s.heap H locs) (hsize : ls.size = c.maxLocals)
    (d0 : decode cc pc = .ok (.new ik, 3)) (d3 : decode cc (pc + 3) = .ok (.dup, 1)) (d4 : decode cc (pc + 4) = .ok (.ldc_w is, 3)) (d7 : decode cc (pc + 7) = .ok (.invokespecial ic, 3)) (d10 : decode cc (pc + 10) = .ok (.athrow, 1))
    (hout : ∀ x ∈ c.exceptionTable.toList, covers x (pc + 10) = false)
    (hRframes : names.length + 3 < R.frames) (hRlocals : (rest.map fun v => v.category).sum + (13 * (names.length + 1) + 43) ≤ R.locals) (hRcells : cells + 1 ≤ R.cells) (hRslots : slots + 6 ≤ R.slots) (hlocks : meth.locks = false)
    (hx : ∀ t : State, s.vm.Alike t.vm → H.size ≤ t.heap.size → (∀ q : Nat, q < H.size → t.heap[q]? = H[q]?) → XC cls s t)
    (hf : ∀ z ∈ locs, free z.base) (hc : cells + 1 ≤ mc) (hs : slots + 6 ≤ ms) :
    W p l e R s m args below meth c H locs cells slots (vx_MQ below Qc XC args s mc ms free) (F0 m pc ls rest) := by
  intro T hT X
  have htr : e.platform.stackTraces = false := (show e.platform.stackTraces = l.stackTraces by rw [X.admits.platform]).trans hl
  have Y := vx_rebase X (R' := { frames := R.frames, locals := R.locals, cells := 1, slots := 6 }) (Nat.le_refl _) (Nat.le_refl _) hRcells hRslots
  obtain ⟨s', hA⟩ : ∃ z, z = (T.setVm s.vm).setFrames (.invoking m args :: below) := ⟨_, rfl⟩
  rw [← hA] at Y
  have hvm : s'.vm = s.vm := by rw [hA]; rfl
  have hhp : s'.heap = H := by rw [hA]; exact hT
  have hW0 : s.WarmedH s'.vm := by rw [hvm]; exact State.WarmedH.refl s
  have hat' : ∀ w ∈ vx_atS own ic cls names, w.before args s' = true := fun w hw => vx_ot_at hW0 hvm.symm (hgood w (List.mem_cons_of_mem _ (List.mem_cons_of_mem _ hw))) (hat w hw)
  have hk' : (Cond.classLink own ik cls).before args s' = true := vx_ot_at hW0 hvm.symm (hgood _ List.mem_cons_self) hk
  have hini' : (Cond.initialized cls).before args s' = true := vx_ot_at hW0 hvm.symm (hgood _ (List.mem_cons_of_mem _ List.mem_cons_self)) hini
  have hU' : vx_Zq Bundle.tN "UNASSIGNED_STACK" Bundle.steD A s' s'.heap := by rw [hhp]; exact vx_Zq.moved hW0.alike (hU.kept hS.2.1)
  have hN' : vx_Zq Bundle.tN "SUPPRESSED_SENTINEL" Bundle.listD A s' s'.heap := by rw [hhp]; exact vx_Zq.moved hW0.alike (hN.kept hS.2.1)
  have h : ∀ w ∈ Bundle.ownAtoms own ic cls names, w.before args s' = true := vx_own hat' (vx_isRefq hU'.1) (vx_isRefq hN'.1) hU'.2.word hN'.2.word
  have hown' : s'.vm.findClass own = some m.cls := by rw [hvm]; exact hown
  have hins : (Cond.instantiable cls 6).before args s' = true := h _ (by simp [Bundle.ownAtoms])
  obtain ⟨vm₁, cX, kX, hfX, hkX, -, -, X₁, st1⟩ := Y.newCold hexec (own := own) (C := cls) (index := ik) (n := 6) hown' hk' hins hini'
    (g := F0 m pc ls rest) rfl (by rw [hb]; exact d0) (Nat.le_refl _) (Nat.le_refl _)
  generalize hT1 : (T.setVm vm₁).pushCell { cls := cX, slots := kX.instanceTypes.map defaultValue, vm := .none } = T1 at X₁ st1
  have hcat : (Value.ref T.heap.size).category = 1 := rfl
  have hcellA : T1.heap[T.heap.size]? = some (freshCell cX kX) := by rw [← hT1]; exact State.heap_pushCell_size _ _
  have d3' : decode c.code (pc + 3) = .ok (.dup, 1) := by rw [hb]; exact d3
  have d4' : decode c.code (pc + 4) = .ok (.ldc_w is, 3) := by rw [hb]; exact d4
  have hstr' : vk_R own is text sa s' := vk_R.warm hW0 hstr
  obtain ⟨U, hsteps, hrun, hend, hW, hsame, ce, hce, hO⟩ := X₁.ctorThrowS hexec htr (own := own) (cls := cls) (names := names) (ic := ic) hown' hcls hnames h (fun x hx => nomatch hx) hfX hkX hcellA (by rw [hhp, hT]; exact Nat.le_refl _) (msg := .ref sa) rfl
    (g := { method := m, pc := pc + 7, locals := ls, stack := .ref sa :: .ref T.heap.size :: .ref T.heap.size :: rest, locked := none }) rfl hsize rfl rfl (rest := rest) rfl
    (by rw [hb]; exact d7) (by rw [hb]; exact d10) hout hRframes (by simp only [List.map_cons, List.sum_cons, hcat]; omega) hlocks
  obtain ⟨f1, f2⟩ := vx_frame hsame
  rw [hhp] at f1 f2
  have hWs : s.WarmedH U.vm := State.WarmedH.trans hW0 hW
  have hcl : s.vm.findClass cls = some ce.cls := by
    have h9 := hO.cls
    rw [hvm] at h9
    exact h9
  have hall : s.sameButNew ({ U with vm := s.vm } : State) locs mc ms := by
    subst hA
    obtain ⟨e1, e2⟩ := hsame
    rw [State.setFrames_setFrames] at e1
    have h2 : (T.setVm s.vm).sameButNew ({ U with vm := s.vm } : State) [] (0 + 1) (0 + 6) := ⟨e1, e2⟩
    have h3 := X.same.trans h2
    rw [List.append_nil] at h3
    exact h3.mono hc hs
  refine ⟨U, ?_, .threw T.heap.size, hrun, hend, Or.inr ⟨T.heap.size, rfl, cls, ce, locs, hx U hWs.alike f1 (fun q hq => f2 q hq (fun z hz => nomatch hz)), hce, hO.vm, hcl, hWs, hall, hf⟩⟩
  refine st1 _ ?_
  show Steps p.tables e below (T1.setTop { method := m, pc := pc + 3, locals := ls, stack := .ref T.heap.size :: rest, locked := none }) _
  jvm_step X₁.here [X₁.here.top, hexec, d3', Value.category]
  exact X₁.ldcStringW hexec (own := own) (text := text) (index := is) (a := sa) hown' hstr'.1 hstr'.2
    (g := { method := m, pc := pc + 4, locals := ls, stack := .ref T.heap.size :: .ref T.heap.size :: rest, locked := none }) rfl d4' _ hsteps
end Ends
section Bodies
variable {l : Launch}
theorem vx_ofW {y : MethodName} {ws ws' : List Cond} {rm : Room} {Pc : Array Value → State → Prop} {Qc : Array Value → State → Outcome → State → Prop} {XC : String → State → State → Prop} {mc ms : Nat} {free : Addr → Prop} {cc : ByteArray} {maxL : Nat} {ret : Option FieldType}
    (hy : plainName y.cls = true) (hw : ws = Cond.code y cc maxL ret :: ws')
    (body : ∀ p e s m args below meth c s₁, BodyLoose p l y (headSpec ws rm) cc maxL ret e s m args below meth c s₁ → c.maxLocals = maxL → (∀ x ∈ c.exceptionTable.toList, False) → Pc args s →
      W p l e (headSpec ws rm).room s m args below meth c s.heap [] 0 0 (vx_MQ below Qc XC args s mc ms free) (entryFrame m args maxL)) : vx_Met l y ws rm Pc Qc XC mc ms free := by
  refine MetFree.of_bodyS (code := cc) (maxLocals := maxL) (ret := ret) hy ?_ ?_
  · intro args s m h hn
    obtain ⟨meth, c, h1, h2, h3, h4, h5, h6, -, -⟩ := Cond.code_spec hn (atoms_spec (ws := ws) h _ (by rw [hw]; exact List.mem_cons_self))
    exact ⟨meth, c, h1, h2, h3, h4, h5, h6⟩
  · intro p e s m args below meth c s₁ B hml hP _
    have hh0 : s₁.heap = s.heap := by rw [B.state]; rfl
    have ht : ∀ x ∈ c.exceptionTable.toList, False := by
      obtain ⟨meth9, c9, h1, h2, -, -, -, -, h7, -⟩ := Cond.code_spec B.named (atoms_spec (ws := ws) B.pre _ (by rw [hw]; exact List.mem_cons_self))
      cases Option.some.inj (h1.symm.trans B.method)
      cases Option.some.inj (h2.symm.trans (Stand.of_body B).code)
      intro x hx
      rw [Array.isEmpty_iff.mp h7] at hx
      cases hx
    obtain ⟨t, a1, o, b1, b2, b3⟩ := body p e s m args below meth c s₁ B hml ht hP s₁ hh0 (Stand.of_body B)
    exact ⟨t, o, a1, b1, b2, b3⟩
/-- the table of a body with handlers -/
theorem vx_table {p : Program} {x y : MethodName} {S : Spec} {cc bytes : ByteArray} {maxL maxL' : Nat} {ret ret' : Option FieldType} {e : Env} {s s₁ : State} {m : MethodId} {args : Array Value} {below : List Frame} {meth : Method} {c : Code} {hh : List (Nat × Nat × Nat × Nat)}
    (B : BodyLoose p l y S cc maxL ret e s m args below meth c s₁) (h : (Cond.codeWith y bytes maxL' ret' hh).before args s = true) : c.exceptionTable.toList = tableOf hh := by
  obtain ⟨m9, meth9, c9, hn9, h1, h2, -, -, h6, -⟩ := Cond.codeWith_spec h
  cases Option.some.inj (hn9.symm.trans B.named)
  cases Option.some.inj (h1.symm.trans B.method)
  cases Option.some.inj (h2.symm.trans (Stand.of_body B).code)
  rw [← h6, table_eq]
end Bodies
end VXA
/-! ===== END ===== -/
/-! ===== BEGIN a static call of a method with an exception table ===== -/
section VXS
variable {p : Program} {l : Launch} {e : Env} {R : Room} {s : State} {m : MethodId} {args : Array Value} {below : List Frame} {meth : Method} {c : Code} {T : State} {H : Heap} {locs : List Loc} {cells slots : Nat}
abbrev vx_CSW (R : Room) (s : State) (args : Array Value) (own : String) (index : Nat) (y : MethodName) (bytes : ByteArray) (maxL : Nat) (ret : Option FieldType) (hh : List (Nat × Nat × Nat × Nat)) (ws : List Cond) (rm : Room) (mc ms n : Nat) : Prop :=
  (rm.cells = mc ∧ rm.slots = ms ∧ rm.frames + 1 ≤ R.frames ∧ 8 + (maxL + 11) + rm.locals ≤ R.locals ∧ (∀ w ∈ ws, ∀ (a' : Array Value) (U : State), s.WarmedH U.vm → w.before a' U = true) ∧ Cond.codeWith y bytes maxL ret hh ∈ ws) ∧
  (Cond.codeWith y bytes maxL ret hh).before args s = true ∧ (Cond.initialized y.cls).before args s = true ∧ (y.cls ≠ "java/lang/invoke/MethodHandle" ∧ y.cls ≠ "java/lang/invoke/VarHandle") ∧
  (∀ sig, parseMethodDescriptor y.desc = some sig → n = sig.parameters.length) ∧ (Cond.methodLink own index y).before args s = true ∧ (Cond.static y).before args s = true
theorem vx_cwSW {own : String} {index maxL mc ms : Nat} {y : MethodName} {bytes : ByteArray} {ret : Option FieldType} {hh : List (Nat × Nat × Nat × Nat)} {Ts ws ws' : List Cond} {rm : Room} (n : Nat) (ht : ∀ w ∈ Ts, w.before args s = true) (hT : GoodIn Ts (va_wsS own index y ws)) (hw : ws = Cond.codeWith y bytes maxL ret hh :: ws') (hrc : rm.cells = mc) (hrs : rm.slots = ms)
    (hd : y.cls ≠ "java/lang/invoke/MethodHandle" ∧ y.cls ≠ "java/lang/invoke/VarHandle" ∧ (parseMethodDescriptor y.desc).map (fun d => d.parameters.length) = some n) (hR : rm.frames + 1 ≤ R.frames ∧ 8 + (maxL + 11) + rm.locals ≤ R.locals) :
    vx_CSW R s args own index y bytes maxL ret hh ws rm mc ms n := by
  have ok : ∀ w ∈ va_wsS own index y ws, w.before args s = true := fun w h => ht w (hT w h).1
  have hG : GoodIn Ts ws := fun w h => hT w (by unfold va_wsS; exact List.mem_append_right _ h)
  have hc : Cond.codeWith y bytes maxL ret hh ∈ ws := by rw [hw]; exact List.mem_cons_self
  refine ⟨⟨hrc, hrs, hR.1, hR.2, pay_in ht hG, hc⟩, ht _ (hG _ hc).1, ok _ (by simp [va_wsS]), ⟨hd.1, hd.2.1⟩, fun sig h => ?_, ok _ (by simp [va_wsS]), ok _ (by simp [va_wsS])⟩
  have h2 := hd.2.2
  rw [h] at h2
  exact (Option.some.inj h2).symm
theorem vx_callSW (X : Stand p l e R s m args below meth c T locs cells slots) (hexec : p.tables.exec = Jvm.exec) {own : String} {index : Nat} {y : MethodName} {bytes : ByteArray} {maxL : Nat} {ret : Option FieldType} {hh : List (Nat × Nat × Nat × Nat)}
    (hown : s.vm.findClass own = some m.cls) (hlink : (Cond.methodLink own index y).before args s = true) (hstat : (Cond.static y).before args s = true) (hinit : (Cond.initialized y.cls).before args s = true)
    (hcode : (Cond.codeWith y bytes maxL ret hh).before args s = true) (hy : y.cls ≠ "java/lang/invoke/MethodHandle" ∧ y.cls ≠ "java/lang/invoke/VarHandle")
    {W9 : Nat} {Pre : Pt → Array Value → Prop} {Post : Pt → Array Value → Option Value → Pt → Prop} (hK : Back l R p e below s args y 3 W9 Pre Post)
    {g : JFrame} (hg : g.method = m) (hsize : g.locals.size = c.maxLocals) {argsL rest : List Value} (hlen : ∀ sig, parseMethodDescriptor y.desc = some sig → argsL.length = sig.parameters.length)
    (hstack : g.stack = argsL.reverse ++ rest) (hW : 2 * g.monitorRoom + (rest.map fun v => v.category).sum ≤ W9) (hdg : decode c.code g.pc = .ok (.invokestatic index, 3))
    (hpre : ∀ vm₁, s.WarmedH vm₁ → Pre ⟨T.setVm vm₁, locs, cells, slots⟩ argsL.toArray) :
    ∃ (v : Option Value) (vm₁ : Vm) (B : Pt), s.WarmedH vm₁ ∧ Stand p l e R s m args below meth c B.U B.locs B.cells B.slots ∧ Post ⟨T.setVm vm₁, locs, cells, slots⟩ argsL.toArray v B ∧
      ∀ target, Steps p.tables e below (B.U.setTop { g with pc := g.pc + 3, stack := v.toList ++ rest }) target → Steps p.tables e below (T.setTop g) target := by
  obtain ⟨mk, methM, cM, hnamed, hmethM, -, -, -, -, -, -, hsigM⟩ := Cond.codeWith_spec hcode
  have hstatic : methM.isStatic = true := Cond.static_spec hnamed hmethM hstat
  obtain ⟨kP, hkP, -⟩ := className_of_methodNamed hnamed
  have hinitP : kP.init = .initialized := Cond.initialized_spec (findClass_of_methodNamed hnamed) hkP hinit
  obtain ⟨vm₁, X₁, hstep₁⟩ := X.invokestatic hexec hown hlink hnamed hmethM hstatic hkP hinitP hy (g := g) hg (argsL := argsL) (rest := rest) (hlen _ hsigM) hstack hdg
  obtain ⟨v, B, X', hpost, hsteps⟩ := hK m meth c ⟨T.setVm vm₁, locs, cells, slots⟩ { g with stack := rest } (.invokestatic index) mk argsL.toArray X₁ hg hsize hdg hW (X₁.named hnamed) (hpre vm₁ X₁.warmed)
  exact ⟨v, vm₁, B, X₁.warmed, X', hpost, fun target h => hstep₁ _ fun acts => by rw [doInvoke_state]; exact hsteps.trans h⟩
theorem vx_runSW {y : MethodName} {bytes cc : ByteArray} {maxL nL mc ms n index : Nat} {ret : Option FieldType} {hh : List (Nat × Nat × Nat × Nat)} {ws : List Cond} {rm : Room} {Pc : Array Value → State → Prop} {Qc : Array Value → State → Outcome → State → Prop} {free : Addr → Prop} {Ts : List Cond} {own : String} {As rest : List Value} {g : JFrame}
    (S : CallFix p m c cc nL s args Ts own) (hM : Met l y ws rm Pc Qc mc ms free) (cw : vx_CSW R s args own index y bytes maxL ret hh ws rm mc ms n) (hp : PreS s H Pc As)
    (hg : g.method = m) (hn : As.length = n) (hsize : g.locals.size = nL) (hstack : g.stack = As.reverse ++ rest) (hW : 2 * g.monitorRoom + (rest.map fun v => v.category).sum ≤ 8) (hdg : decode cc g.pc = .ok (.invokestatic index, 3)) (hf : cells + mc ≤ R.cells ∧ slots + ms ≤ R.slots) :
    va_Run p l e R s m args below meth c H locs cells slots mc ms g rest (Qc As.toArray) (free) := by
  obtain ⟨⟨hrc, hrs, hfr, hlo, hws, hcw⟩, hcode, hini, hy, hlen, hl, hstt⟩ := cw
  have hK : Back l R p e below s args y 3 8 (PreOf R mc ms Pc) (PostOf Qc mc ms free) := va_backW (hh := hh) (bytes := bytes) (maxL := maxL) (ret := ret) hM hp.1 hrc hrs hfr hlo hws hcw (fun a' U hW => word_at hW (Or.inl (by first | rfl | simp [Cond.onTables, Cond.keeps, Cond.steady])) hini)
  obtain ⟨hx, hb, hml, ho, -⟩ := S
  intro T hT X
  obtain ⟨v, vm₁, ⟨U', l2, c2, s2⟩, hW₁, X', ⟨g', mk, t, L, e1, e2, hq, h1, hL, h2, h3⟩, st⟩ := vx_callSW X hx (hh := hh) (bytes := bytes) (maxL := maxL) (ret := ret) ho hl hstt hini hcode hy hK hg (hsize.trans hml.symm) (argsL := As) (rest := rest) (fun sig h => hn.trans (hlen sig h)) hstack hW (by rw [hb]; exact hdg)
    (fun vm₁ hW₁ => ⟨hf.1, hf.2, hp.2 (T.setVm vm₁) hT hW₁⟩)
  dsimp only [Pt.U, Pt.locs, Pt.cells, Pt.slots] at X' e1 e2 h1 h2 h3 st
  subst h1; subst h2; subst h3
  exact ⟨v, (T.setVm vm₁).calling g' mk As.toArray, t, U', L, hT, X', hL, e1, e2, hq, st⟩
/-- not caught here, past rows that name other classes: it goes on to the caller -/
theorem vx_outP {p : Program} {l : Launch} {e : Env} {R : Room} {s : State} {m : MethodId} {args : Array Value} {below : List Frame} {meth : Method} {c : Code} {H : Heap} {locs : List Loc} {cells slots : Nat} {free : Addr → Prop} {ls : Array Slot} {rest : List Value} {Qc : Array Value → State → Outcome → State → Prop} {XC : String → State → State → Prop}
    {pc : Nat} {own E : String} {ce : Cell} {q : Addr} {mc ms : Nat} (hown : s.vm.findClass own = some m.cls) (hlocks : meth.locks = false)
    (hpass : ∀ z ∈ c.exceptionTable.toList, covers z pc = false ∨ (z.catchType ≠ 0 ∧ ∃ nm : String, (Cond.classLink own z.catchType nm).before args s = true ∧ va_Nc E nm s)) (hcell : H[q]? = some ce) (hv : ce.vm = .none) (hcl : s.vm.findClass E = some ce.cls)
    (hx : ∀ t : State, t.heap = H → s.vm.Alike t.vm → XC E s t) (hf : ∀ z ∈ locs, free z.base) (hc : cells ≤ mc) (hs : slots ≤ ms) :
    vx_W p l e R s m args below meth c H locs cells slots (vx_MQ below Qc XC args s mc ms free) (F0 m pc ls rest) q := by
  intro T hT X
  have hpl : e.platform.magicAccessors = ({} : Platform).magicAccessors := by rw [X.admits.platform]
  obtain ⟨vm', hW', X', st⟩ := X.outThrough hlocks q (g := F0 m pc ls rest) rfl rfl rfl (cell := ce) (by rw [hT]; exact hcell) (by rw [hv]; rfl)
    (by obtain ⟨k9, h9, -⟩ := Vm.findClass_spec hcl; exact ⟨k9, h9⟩) (fun z hz => by
      rcases hpass z hz with h | ⟨hz0, nm, hl1, hn1⟩
      · exact Or.inl h
      · obtain ⟨c6, hc6, hcl6⟩ := Cond.classLink_spec hown hl1 e.platform hpl
        obtain ⟨a8, b8, h1, h2, h3⟩ := hn1
        cases Option.some.inj (h1.symm.trans hcl)
        cases Option.some.inj (h2.symm.trans hc6)
        exact Or.inr ⟨hz0, _, hcl6, h3⟩)
  obtain ⟨g₀, hfr⟩ := X'.frames_eq
  have hcell9 : ((T.setVm vm').setFrames (.throwing q :: below)).heap[q]? = some ce := by
    show T.heap[q]? = some ce
    rw [hT]; exact hcell
  have hend : Ended ((T.setVm vm').setFrames (.throwing q :: below)) below (.threw q) := State.frames_setFrames _ (State.cur_lt_of_frames hfr)
  refine ⟨(T.setVm vm').setFrames (.throwing q :: below), ?_, .threw q, X'.here.running, hend, Or.inr ⟨q, rfl, E, ce, locs, hx _ hT (X'.ends _).1.alike, hcell9, hv, hcl, (X'.ends _).1, (X'.ends _).2.mono hc hs, hf⟩⟩
  rw [X.pushThrowing_eq]
  exact st
/-- a thing of a world lies in the heap -/
theorem vx_lt {D : va_G} {cl : List vw_C} {ws : va_W} {H1 : Heap} (h : va_P D cl ws H1) {k : Nat} {q : Nat × va_E} (hk : ws[k]? = some q) : q.1 < H1.size := (h k q hk).lt
end VXS
/-! ===== END ===== -/
/-! ===== BEGIN methods with a table of their own: called by a name, returning or throwing ===== -/
section VXH
/-! vx_backW, vx_callVX, vx_callSX, vx_callVW, vx_runVW, vx_runVX, vx_runSX, vx_ofWH follow the same proofs as their sisters above (Free/Laws.lean, Shelf42/LK1.lean); vx_outP calls Shelf42/NT130.lean (outThrough). -/
section
variable {l : Launch} {R : Room} {p : Program} {e : Env} {below : List Frame} {s : State} {sargs : Array Value} {y : MethodName} {len W9 : Nat}
theorem vx_backW {ws : List Cond} {rm : Room} {Pc : Array Value → State → Prop} {Qc : Array Value → State → Outcome → State → Prop} {XC : String → State → State → Prop} {mc ms : Nat} {free : Addr → Prop} {bytes : ByteArray} {maxL : Nat} {ret : Option FieldType} {hh : List (Nat × Nat × Nat × Nat)}
    (hM : vx_Met l y ws rm Pc Qc XC mc ms free) (hblind : FrameBlind Pc) (hrc : rm.cells = mc) (hrs : rm.slots = ms)
    (hframes : rm.frames + 1 ≤ R.frames) (hlocals : W9 + (maxL + 11) + rm.locals ≤ R.locals)
    (hws : ∀ w ∈ ws, ∀ a' U, s.WarmedH U.vm → w.before a' U = true) (hcode : Cond.codeWith y bytes maxL ret hh ∈ ws) (hinit : ∀ a' U, s.WarmedH U.vm → (Cond.initialized y.cls).before a' U = true) :
    vx_Back l R p e below s sargs y len W9 (PreOf R mc ms Pc) (PostOf Qc mc ms free) (vx_Post XC mc ms free) := by
  intro m meth c A g ig mk a X hg hsize hdg hW hn hp
  have h1 : (headSpec ws rm).pre.before a A.U = true := atoms_intro fun w hw => hws w hw _ _ X.warmed
  have h2 : (Cond.codeWith y bytes maxL ret hh).before a A.U = true := hws _ hcode _ _ X.warmed
  have h3 : (Cond.initialized y.cls).before a A.U = true := hinit _ _ X.warmed
  have h4 : A.cells + (headSpec ws rm).room.cells ≤ R.cells := by rw [show (headSpec ws rm).room.cells = mc from hrc]; exact hp.1
  have h5 : A.slots + (headSpec ws rm).room.slots ≤ R.slots := by rw [show (headSpec ws rm).room.slots = ms from hrs]; exact hp.2.1
  have hPc : Pc a (A.U.calling g mk a) := hblind _ _ _ _ hp.2.2
  obtain ⟨U, Ls, c0, s0⟩ := A
  dsimp only [Pt.U, Pt.locs, Pt.cells, Pt.slots] at h1 h2 h3 h4 h5 X hn hPc ⊢
  obtain ⟨m9, methY, cY, hn9, hmY, hcY, -, hlY, -⟩ := Cond.codeWith_spec h2
  cases Option.some.inj (hn9.symm.trans hn)
  obtain ⟨kY, hkY, -⟩ := className_of_methodNamed hn
  have hinitY : kY.init = .initialized := Cond.initialized_spec (findClass_of_methodNamed hn) hkY h3
  have h : At U g.method c below := by rw [hg]; exact X.here
  have hlocals9 : W9 + (maxL + 11) + (headSpec ws rm).room.locals ≤ R.locals := hlocals
  have happ : (headSpec ws rm).appliesLoose y e.platform (U.calling g mk a) = true :=
    Spec.appliesLoose_calling (g := g) h hdg hn hkY hinitY
      (X.room_calling (g := g) (R' := (headSpec ws rm).room) hsize hmY hcY hframes (by rw [hlY]; omega) h4 h5) h1
  obtain ⟨mid, hmid⟩ := h.above
  have hfr : (U.setTop g).frames = (.java g :: mid) ++ below := by rw [State.frames_setTop' g h.top, hmid]; rfl
  obtain ⟨o, s₂, hsteps, -, hend, hq⟩ := Steps.callFree hM p X.admits X.cas X.clock (acts := []) hfr happ hPc trivial
  have hq' : vx_Q Qc XC mc ms free a (U.calling g mk a) o s₂ := hq
  rw [State.frames_setTop' g h.top] at hend
  obtain ⟨g₀, hg0⟩ := Option.isSome_iff_exists.mp h.top
  obtain ⟨r, hr⟩ := State.topJava?_eq_some.mp hg0
  have hr' : (({ U with heap := s₂.heap, slotsUsed := s₂.slotsUsed } : State).setVm s₂.vm).frames = .java g₀ :: r := hr
  rcases hq' with ⟨hqc, L, hfe, hL⟩ | ⟨q, rfl, E, ce, L, hx, hce, hcv, hcl, hW₂, hsm, hL⟩
  · obtain ⟨⟨v, rfl⟩, hW₂, e2, q2, q3, q4, q5, q6⟩ := id hfe
    have e3 : s₂ = ({ (U.calling g mk a).setFrames s₂.frames with heap := s₂.heap, slotsUsed := s₂.slotsUsed } : State).setVm s₂.vm := by
      have : s₂ = ({ s₂ with vm := (U.calling g mk a).vm } : State).setVm s₂.vm := rfl
      rw [e2] at this
      exact this
    obtain ⟨c₂, i₂, len₂, hc₂, hd₂, hf₂⟩ := hend
    have hW' : U.WarmedH s₂.vm := hW₂
    have hcc : c₂ = c := by
      have h1 : s₂.code? g.method = U.code? g.method := by
        rw [State.code?_eq, State.code?_eq, hW'.alike.method?]
      exact Option.some.inj (hc₂.symm.trans (h1.trans h.code))
    subst hcc
    have hlen : len₂ = len := by rw [hdg] at hd₂; cases hd₂; rfl
    subst hlen
    have hs₂ : s₂ = (({ U with heap := s₂.heap, slotsUsed := s₂.slotsUsed } : State).setVm s₂.vm).setTop { g with pc := g.pc + len₂, stack := v.toList ++ g.stack } := by
      refine e3.trans ?_
      rw [hf₂, State.calling_eq h.top, State.setFrames_setFrames, State.setTop_of_frames _ hr', hr]
      rfl
    have hsame : U.sameButNew ({ U with heap := s₂.heap, slotsUsed := s₂.slotsUsed } : State) L mc ms := by
      refine ⟨?_, q2, q3, q4, q5, q6⟩
      obtain ⟨t, ht, -⟩ := State.frames_cons hr
      show ({ U with heap := s₂.heap, slotsUsed := s₂.slotsUsed } : State) = { U.setFrames U.frames with heap := s₂.heap, slotsUsed := s₂.slotsUsed }
      rw [State.setFrames_self ht]
    subst hg
    refine Or.inl ⟨v, ⟨(({ U with heap := s₂.heap, slotsUsed := s₂.slotsUsed } : State).setVm s₂.vm), Ls ++ L, c0 + mc, s0 + ms⟩,
      ⟨X.admits, X.cas, X.clock, X.frames, X.room, X.hears, X.method, X.code, (X.here.setHeapUsed s₂.heap s₂.slotsUsed).setVm hW'.alike, X.tail, State.WarmedH.trans X.warmed hW', X.limits, X.bytes, X.same.trans (hsame.setVm s.vm)⟩,
      ⟨g, mk, s₂, L, rfl, rfl, hqc, rfl, hL, rfl, rfl⟩, ?_⟩
    show Steps p.tables e below _ ((({ U with heap := s₂.heap, slotsUsed := s₂.slotsUsed } : State).setVm s₂.vm).setTop { g with pc := g.pc + len₂, stack := v.toList ++ g.stack })
    rw [← hs₂]
    exact hsteps
  · obtain ⟨e2, q2, q3, q4, q5, q6⟩ := id hsm
    have e3 : s₂ = ({ (U.calling g mk a).setFrames s₂.frames with heap := s₂.heap, slotsUsed := s₂.slotsUsed } : State).setVm s₂.vm := by
      have : s₂ = ({ s₂ with vm := (U.calling g mk a).vm } : State).setVm s₂.vm := rfl
      rw [e2] at this
      exact this
    have hf₂ : s₂.frames = .throwing q :: .java g :: U.frames.tail := hend
    have hW' : U.WarmedH s₂.vm := hW₂
    have hs₂ : s₂ = ((({ U with heap := s₂.heap, slotsUsed := s₂.slotsUsed } : State).setVm s₂.vm).setTop g).pushFrame (.throwing q) := by
      refine e3.trans ?_
      rw [hf₂, State.calling_eq h.top, State.setFrames_setFrames, State.pushFrame, State.frames_setTop _ hr', State.setTop_of_frames _ hr', State.setFrames_setFrames, hr]
      rfl
    have hsame : U.sameButNew ({ U with heap := s₂.heap, slotsUsed := s₂.slotsUsed } : State) L mc ms := by
      refine ⟨?_, q2, q3, q4, q5, q6⟩
      obtain ⟨t, ht, -⟩ := State.frames_cons hr
      show ({ U with heap := s₂.heap, slotsUsed := s₂.slotsUsed } : State) = { U.setFrames U.frames with heap := s₂.heap, slotsUsed := s₂.slotsUsed }
      rw [State.setFrames_self ht]
    subst hg
    refine Or.inr ⟨q, ⟨(({ U with heap := s₂.heap, slotsUsed := s₂.slotsUsed } : State).setVm s₂.vm), Ls ++ L, c0 + mc, s0 + ms⟩,
      ⟨X.admits, X.cas, X.clock, X.frames, X.room, X.hears, X.method, X.code, (X.here.setHeapUsed s₂.heap s₂.slotsUsed).setVm hW'.alike, X.tail, State.WarmedH.trans X.warmed hW', X.limits, X.bytes, X.same.trans (hsame.setVm s.vm)⟩,
      ⟨g, mk, s₂, L, E, ce, rfl, rfl, hx, hce, hcv, hcl, rfl, hL, rfl, rfl⟩, ?_⟩
    show Steps p.tables e below _ (((({ U with heap := s₂.heap, slotsUsed := s₂.slotsUsed } : State).setVm s₂.vm).setTop g).pushFrame (.throwing q))
    rw [← hs₂]
    exact hsteps
end
variable {p : Program} {l : Launch} {e : Env} {R : Room} {s : State} {m : MethodId} {args : Array Value} {below : List Frame} {meth : Method} {c : Code} {T : State} {H : Heap} {locs : List Loc} {cells slots : Nat}
theorem vx_callVX (X : Stand p l e R s m args below meth c T locs cells slots) (hexec : p.tables.exec = Jvm.exec) {own C : String} {index : Nat} {y : MethodName} {bytes : ByteArray} {maxL : Nat} {ret : Option FieldType} {hh : List (Nat × Nat × Nat × Nat)}
    (hown : s.vm.findClass own = some m.cls) (hlink : (Cond.methodLink own index y).before args s = true) (hinst : (Cond.instanceMethod y).before args s = true) (hsel : (Cond.selects C y y).before args s = true)
    (hcode : (Cond.codeWith y bytes maxL ret hh).before args s = true) (hy : y.cls ≠ "java/lang/invoke/MethodHandle" ∧ y.cls ≠ "java/lang/invoke/VarHandle")
    {W9 : Nat} {Pre : Pt → Array Value → Prop} {Post : Pt → Array Value → Option Value → Pt → Prop} {PostX : Pt → Array Value → Addr → Pt → Prop} (hK : vx_Back l R p e below s args y 3 W9 Pre Post PostX)
    {b : Addr} {cellB : Cell} (hcell : T.heap[b]? = some cellB) (hobj : cellB.vm.isStatics = false) (hcls : s.vm.findClass C = some cellB.cls)
    {g : JFrame} (hg : g.method = m) (hsize : g.locals.size = c.maxLocals) {argsL rest : List Value} (hlen : ∀ sig, parseMethodDescriptor y.desc = some sig → argsL.length = sig.parameters.length)
    (hstack : g.stack = argsL.reverse ++ .ref b :: rest) (hW : 2 * g.monitorRoom + (rest.map fun v => v.category).sum ≤ W9) (hdg : decode c.code g.pc = .ok (.invokevirtual index, 3))
    (hpre : ∀ vm₁, s.WarmedH vm₁ → Pre ⟨T.setVm vm₁, locs, cells, slots⟩ (Value.ref b :: argsL).toArray) :
    (∃ (v : Option Value) (vm₁ : Vm) (B : Pt), s.WarmedH vm₁ ∧ Stand p l e R s m args below meth c B.U B.locs B.cells B.slots ∧ Post ⟨T.setVm vm₁, locs, cells, slots⟩ (Value.ref b :: argsL).toArray v B ∧
      ∀ target, Steps p.tables e below (B.U.setTop { g with pc := g.pc + 3, stack := v.toList ++ rest }) target → Steps p.tables e below (T.setTop g) target) ∨
    (∃ (q : Addr) (vm₁ : Vm) (B : Pt), s.WarmedH vm₁ ∧ Stand p l e R s m args below meth c B.U B.locs B.cells B.slots ∧ PostX ⟨T.setVm vm₁, locs, cells, slots⟩ (Value.ref b :: argsL).toArray q B ∧
      Steps p.tables e below (T.setTop g) ((B.U.setTop { g with stack := rest }).pushFrame (.throwing q))) := by
  obtain ⟨mk, methM, hnamed, hmethM, hstM, habM⟩ := Cond.instanceMethod_spec hinst
  obtain ⟨m8, methM', cM, hn8, hmethM', -, -, -, -, -, -, hsigM⟩ := Cond.codeWith_spec hcode
  cases Option.some.inj (hn8.symm.trans hnamed)
  cases hmethM.symm.trans hmethM'
  obtain ⟨c2, r2, m2, q1, q2, q3, q4, kP, hkP, hkPi⟩ := Cond.selects_spec hsel
  cases hcls.symm.trans q1
  cases (State.methodFound?_of_named hnamed hy).symm.trans q2
  cases hnamed.symm.trans q3
  have hselP : selectMethod e.platform s.vm cellB.cls mk = .method mk := by rw [Launch.admits_selectMethod X.admits]; exact q4
  obtain ⟨vm₁, X₁, hstep₁⟩ := X.invokevirtual hexec hown hlink hnamed hmethM hstM hkP hkPi hy (a := b) (cell := cellB) hcell
    (fun z h => by rw [h] at hobj; cases hobj) hselP hmethM habM hkP hkPi (g := g) hg (argsL := argsL) (rest := rest) (hlen _ hsigM) hstack hdg
  rcases hK m meth c ⟨T.setVm vm₁, locs, cells, slots⟩ { g with stack := rest } (.invokevirtual index) mk (Value.ref b :: argsL).toArray X₁ hg hsize hdg hW (X₁.named hnamed) (hpre vm₁ X₁.warmed) with ⟨v, B, X', hpost, hsteps⟩ | ⟨q, B, X', hpost, hsteps⟩
  · exact Or.inl ⟨v, vm₁, B, X₁.warmed, X', hpost, fun target h => hstep₁ _ fun acts => by rw [doInvoke_state]; exact hsteps.trans h⟩
  · exact Or.inr ⟨q, vm₁, B, X₁.warmed, X', hpost, hstep₁ _ fun acts => by rw [doInvoke_state]; exact hsteps⟩
theorem vx_callSX (X : Stand p l e R s m args below meth c T locs cells slots) (hexec : p.tables.exec = Jvm.exec) {own : String} {index : Nat} {y : MethodName} {bytes : ByteArray} {maxL : Nat} {ret : Option FieldType} {hh : List (Nat × Nat × Nat × Nat)}
    (hown : s.vm.findClass own = some m.cls) (hlink : (Cond.methodLink own index y).before args s = true) (hstat : (Cond.static y).before args s = true) (hinit : (Cond.initialized y.cls).before args s = true)
    (hcode : (Cond.codeWith y bytes maxL ret hh).before args s = true) (hy : y.cls ≠ "java/lang/invoke/MethodHandle" ∧ y.cls ≠ "java/lang/invoke/VarHandle")
    {W9 : Nat} {Pre : Pt → Array Value → Prop} {Post : Pt → Array Value → Option Value → Pt → Prop} {PostX : Pt → Array Value → Addr → Pt → Prop} (hK : vx_Back l R p e below s args y 3 W9 Pre Post PostX)
    {g : JFrame} (hg : g.method = m) (hsize : g.locals.size = c.maxLocals) {argsL rest : List Value} (hlen : ∀ sig, parseMethodDescriptor y.desc = some sig → argsL.length = sig.parameters.length)
    (hstack : g.stack = argsL.reverse ++ rest) (hW : 2 * g.monitorRoom + (rest.map fun v => v.category).sum ≤ W9) (hdg : decode c.code g.pc = .ok (.invokestatic index, 3))
    (hpre : ∀ vm₁, s.WarmedH vm₁ → Pre ⟨T.setVm vm₁, locs, cells, slots⟩ argsL.toArray) :
    (∃ (v : Option Value) (vm₁ : Vm) (B : Pt), s.WarmedH vm₁ ∧ Stand p l e R s m args below meth c B.U B.locs B.cells B.slots ∧ Post ⟨T.setVm vm₁, locs, cells, slots⟩ argsL.toArray v B ∧
      ∀ target, Steps p.tables e below (B.U.setTop { g with pc := g.pc + 3, stack := v.toList ++ rest }) target → Steps p.tables e below (T.setTop g) target) ∨
    (∃ (q : Addr) (vm₁ : Vm) (B : Pt), s.WarmedH vm₁ ∧ Stand p l e R s m args below meth c B.U B.locs B.cells B.slots ∧ PostX ⟨T.setVm vm₁, locs, cells, slots⟩ argsL.toArray q B ∧
      Steps p.tables e below (T.setTop g) ((B.U.setTop { g with stack := rest }).pushFrame (.throwing q))) := by
  obtain ⟨mk, methM, cM, hnamed, hmethM, -, -, -, -, -, -, hsigM⟩ := Cond.codeWith_spec hcode
  have hstatic : methM.isStatic = true := Cond.static_spec hnamed hmethM hstat
  obtain ⟨kP, hkP, -⟩ := className_of_methodNamed hnamed
  have hinitP : kP.init = .initialized := Cond.initialized_spec (findClass_of_methodNamed hnamed) hkP hinit
  obtain ⟨vm₁, X₁, hstep₁⟩ := X.invokestatic hexec hown hlink hnamed hmethM hstatic hkP hinitP hy (g := g) hg (argsL := argsL) (rest := rest) (hlen _ hsigM) hstack hdg
  rcases hK m meth c ⟨T.setVm vm₁, locs, cells, slots⟩ { g with stack := rest } (.invokestatic index) mk argsL.toArray X₁ hg hsize hdg hW (X₁.named hnamed) (hpre vm₁ X₁.warmed) with ⟨v, B, X', hpost, hsteps⟩ | ⟨q, B, X', hpost, hsteps⟩
  · exact Or.inl ⟨v, vm₁, B, X₁.warmed, X', hpost, fun target h => hstep₁ _ fun acts => by rw [doInvoke_state]; exact hsteps.trans h⟩
  · exact Or.inr ⟨q, vm₁, B, X₁.warmed, X', hpost, hstep₁ _ fun acts => by rw [doInvoke_state]; exact hsteps⟩
theorem vx_callVW (X : Stand p l e R s m args below meth c T locs cells slots) (hexec : p.tables.exec = Jvm.exec) {own C : String} {index : Nat} {y : MethodName} {bytes : ByteArray} {maxL : Nat} {ret : Option FieldType} {hh : List (Nat × Nat × Nat × Nat)}
    (hown : s.vm.findClass own = some m.cls) (hlink : (Cond.methodLink own index y).before args s = true) (hinst : (Cond.instanceMethod y).before args s = true) (hsel : (Cond.selects C y y).before args s = true)
    (hcode : (Cond.codeWith y bytes maxL ret hh).before args s = true) (hy : y.cls ≠ "java/lang/invoke/MethodHandle" ∧ y.cls ≠ "java/lang/invoke/VarHandle")
    {W9 : Nat} {Pre : Pt → Array Value → Prop} {Post : Pt → Array Value → Option Value → Pt → Prop} (hK : Back l R p e below s args y 3 W9 Pre Post)
    {b : Addr} {cellB : Cell} (hcell : T.heap[b]? = some cellB) (hobj : cellB.vm.isStatics = false) (hcls : s.vm.findClass C = some cellB.cls)
    {g : JFrame} (hg : g.method = m) (hsize : g.locals.size = c.maxLocals) {argsL rest : List Value} (hlen : ∀ sig, parseMethodDescriptor y.desc = some sig → argsL.length = sig.parameters.length)
    (hstack : g.stack = argsL.reverse ++ .ref b :: rest) (hW : 2 * g.monitorRoom + (rest.map fun v => v.category).sum ≤ W9) (hdg : decode c.code g.pc = .ok (.invokevirtual index, 3))
    (hpre : ∀ vm₁, s.WarmedH vm₁ → Pre ⟨T.setVm vm₁, locs, cells, slots⟩ (Value.ref b :: argsL).toArray) :
    ∃ (v : Option Value) (vm₁ : Vm) (B : Pt), s.WarmedH vm₁ ∧ Stand p l e R s m args below meth c B.U B.locs B.cells B.slots ∧ Post ⟨T.setVm vm₁, locs, cells, slots⟩ (Value.ref b :: argsL).toArray v B ∧
      ∀ target, Steps p.tables e below (B.U.setTop { g with pc := g.pc + 3, stack := v.toList ++ rest }) target → Steps p.tables e below (T.setTop g) target := by
  obtain ⟨mk, methM, hnamed, hmethM, hstM, habM⟩ := Cond.instanceMethod_spec hinst
  obtain ⟨m8, methM', cM, hn8, hmethM', -, -, -, -, -, -, hsigM⟩ := Cond.codeWith_spec hcode
  cases Option.some.inj (hn8.symm.trans hnamed)
  cases hmethM.symm.trans hmethM'
  obtain ⟨c2, r2, m2, q1, q2, q3, q4, kP, hkP, hkPi⟩ := Cond.selects_spec hsel
  cases hcls.symm.trans q1
  cases (State.methodFound?_of_named hnamed hy).symm.trans q2
  cases hnamed.symm.trans q3
  have hselP : selectMethod e.platform s.vm cellB.cls mk = .method mk := by rw [Launch.admits_selectMethod X.admits]; exact q4
  obtain ⟨vm₁, X₁, hstep₁⟩ := X.invokevirtual hexec hown hlink hnamed hmethM hstM hkP hkPi hy (a := b) (cell := cellB) hcell
    (fun z h => by rw [h] at hobj; cases hobj) hselP hmethM habM hkP hkPi (g := g) hg (argsL := argsL) (rest := rest) (hlen _ hsigM) hstack hdg
  obtain ⟨v, B, X', hpost, hsteps⟩ := hK m meth c ⟨T.setVm vm₁, locs, cells, slots⟩ { g with stack := rest } (.invokevirtual index) mk (Value.ref b :: argsL).toArray X₁ hg hsize hdg hW (X₁.named hnamed) (hpre vm₁ X₁.warmed)
  exact ⟨v, vm₁, B, X₁.warmed, X', hpost, fun target h => hstep₁ _ fun acts => by rw [doInvoke_state]; exact hsteps.trans h⟩
abbrev vx_CVW (R : Room) (s : State) (args : Array Value) (own C : String) (index : Nat) (y : MethodName) (bytes : ByteArray) (maxL : Nat) (ret : Option FieldType) (hh : List (Nat × Nat × Nat × Nat)) (ws : List Cond) (rm : Room) (mc ms n : Nat) : Prop :=
  (rm.cells = mc ∧ rm.slots = ms ∧ rm.frames + 1 ≤ R.frames ∧ 8 + (maxL + 11) + rm.locals ≤ R.locals ∧ (∀ w ∈ ws, ∀ (a' : Array Value) (U : State), s.WarmedH U.vm → w.before a' U = true) ∧ Cond.codeWith y bytes maxL ret hh ∈ ws) ∧
  (Cond.codeWith y bytes maxL ret hh).before args s = true ∧ (Cond.initialized y.cls).before args s = true ∧ (y.cls ≠ "java/lang/invoke/MethodHandle" ∧ y.cls ≠ "java/lang/invoke/VarHandle") ∧
  (∀ sig, parseMethodDescriptor y.desc = some sig → n = sig.parameters.length) ∧ (Cond.methodLink own index y).before args s = true ∧ (Cond.instanceMethod y).before args s = true ∧ (Cond.selects C y y).before args s = true
theorem vx_cwVW {own C : String} {index maxL mc ms : Nat} {y : MethodName} {bytes : ByteArray} {ret : Option FieldType} {hh : List (Nat × Nat × Nat × Nat)} {Ts ws ws' : List Cond} {rm : Room} (n : Nat) (ht : ∀ w ∈ Ts, w.before args s = true) (hT : GoodIn Ts (wsV own index C y ws)) (hw : ws = Cond.codeWith y bytes maxL ret hh :: ws') (hrc : rm.cells = mc) (hrs : rm.slots = ms)
    (hd : y.cls = C ∧ y.cls ≠ "java/lang/invoke/MethodHandle" ∧ y.cls ≠ "java/lang/invoke/VarHandle" ∧ (parseMethodDescriptor y.desc).map (fun d => d.parameters.length) = some n) (hR : rm.frames + 1 ≤ R.frames ∧ 8 + (maxL + 11) + rm.locals ≤ R.locals) :
    vx_CVW R s args own C index y bytes maxL ret hh ws rm mc ms n := by
  obtain ⟨hC, hd⟩ := hd
  subst hC
  have ok : ∀ w ∈ wsV own index y.cls y ws, w.before args s = true := fun w h => ht w (hT w h).1
  have hG : GoodIn Ts ws := fun w h => hT w (by unfold wsV; exact List.mem_append_right _ h)
  have hc : Cond.codeWith y bytes maxL ret hh ∈ ws := by rw [hw]; exact List.mem_cons_self
  refine ⟨⟨hrc, hrs, hR.1, hR.2, pay_in ht hG, hc⟩, ht _ (hG _ hc).1, ok _ (by simp [wsV]), ⟨hd.1, hd.2.1⟩, fun sig h => ?_, ok _ (by simp [wsV]), ok _ (by simp [wsV]), ok _ (by simp [wsV])⟩
  have h2 := hd.2.2
  rw [h] at h2
  exact (Option.some.inj h2).symm
theorem vx_runVW {y : MethodName} {bytes cc : ByteArray} {maxL nL mc ms n index : Nat} {ret : Option FieldType} {hh : List (Nat × Nat × Nat × Nat)} {ws : List Cond} {rm : Room} {Pc : Array Value → State → Prop} {Qc : Array Value → State → Outcome → State → Prop} {free : Addr → Prop} {Ts : List Cond} {own C : String} {b : Addr} {As rest : List Value} {g : JFrame}
    (S : CallFix p m c cc nL s args Ts own) (hM : Met l y ws rm Pc Qc mc ms free) (cw : vx_CVW R s args own C index y bytes maxL ret hh ws rm mc ms n) (hp : PreV s H C b Pc As)
    (hg : g.method = m) (hn : As.length = n) (hsize : g.locals.size = nL) (hstack : g.stack = As.reverse ++ .ref b :: rest) (hW : 2 * g.monitorRoom + (rest.map fun v => v.category).sum ≤ 8) (hdg : decode cc g.pc = .ok (.invokevirtual index, 3)) (hf : cells + mc ≤ R.cells ∧ slots + ms ≤ R.slots) :
    va_Run p l e R s m args below meth c H locs cells slots mc ms g rest (Qc (Value.ref b :: As).toArray) free := by
  obtain ⟨⟨hrc, hrs, hfr, hlo, hws, hcw⟩, hcode, hini, hy, hlen, hl, hin, hse⟩ := cw
  have hK : Back l R p e below s args y 3 8 (PreOf R mc ms Pc) (PostOf Qc mc ms free) := va_backW (hh := hh) (bytes := bytes) (maxL := maxL) (ret := ret) hM hp.1 hrc hrs hfr hlo hws hcw (fun a' U hW => word_at hW (Or.inl (by first | rfl | simp [Cond.onTables, Cond.keeps, Cond.steady])) hini)
  obtain ⟨hx, hb, hml, ho, -⟩ := S
  obtain ⟨-, ⟨cellB, hcB, hoB, hclB⟩, hPc⟩ := hp
  intro T hT X
  obtain ⟨v, vm₁, ⟨U', l2, c2, s2⟩, hW₁, X', ⟨g', mk, t, L, e1, e2, hq, h1, hL, h2, h3⟩, st⟩ := vx_callVW X hx (C := C) (hh := hh) (bytes := bytes) (maxL := maxL) (ret := ret) ho hl hin hse hcode hy hK (by rw [hT]; exact hcB) hoB hclB hg (hsize.trans hml.symm) (argsL := As) (rest := rest) (fun sig h => hn.trans (hlen sig h)) hstack hW (by rw [hb]; exact hdg)
    (fun vm₁ hW₁ => ⟨hf.1, hf.2, hPc (T.setVm vm₁) hT hW₁⟩)
  dsimp only [Pt.U, Pt.locs, Pt.cells, Pt.slots] at X' e1 e2 h1 h2 h3 st
  subst h1; subst h2; subst h3
  exact ⟨v, (T.setVm vm₁).calling g' mk (Value.ref b :: As).toArray, t, U', L, hT, X', hL, e1, e2, hq, st⟩
section
variable {y : MethodName} {bytes cc : ByteArray} {maxL nL mc ms n index : Nat} {ret : Option FieldType} {ws : List Cond} {rm : Room} {Pc : Array Value → State → Prop} {Qc : Array Value → State → Outcome → State → Prop} {XC : String → State → State → Prop} {free : Addr → Prop} {Ts : List Cond} {own C : String} {b : Addr} {As rest : List Value} {g : JFrame}
theorem vx_runVX {hh : List (Nat × Nat × Nat × Nat)} (S : CallFix p m c cc nL s args Ts own) (hM : vx_Met l y ws rm Pc Qc XC mc ms free) (cw : vx_CVW R s args own C index y bytes maxL ret hh ws rm mc ms n) (hp : PreV s H C b Pc As)
    (hg : g.method = m) (hn : As.length = n) (hsize : g.locals.size = nL) (hstack : g.stack = As.reverse ++ .ref b :: rest) (hW : 2 * g.monitorRoom + (rest.map fun v => v.category).sum ≤ 8) (hdg : decode cc g.pc = .ok (.invokevirtual index, 3)) (hf : cells + mc ≤ R.cells ∧ slots + ms ≤ R.slots) :
    vx_Run p l e R s m args below meth c H locs cells slots mc ms g rest (Qc (Value.ref b :: As).toArray) XC free := by
  obtain ⟨⟨hrc, hrs, hfr, hlo, hws, hcw⟩, hcode, hini, hy, hlen, hl, hin, hse⟩ := cw
  have hK : vx_Back l R p e below s args y 3 8 (PreOf R mc ms Pc) (PostOf Qc mc ms free) (vx_Post XC mc ms free) := vx_backW (hh := hh) (bytes := bytes) (maxL := maxL) (ret := ret) hM hp.1 hrc hrs hfr hlo hws hcw (fun a' U hW => word_at hW (Or.inl (by first | rfl | simp [Cond.onTables, Cond.keeps, Cond.steady])) hini)
  obtain ⟨hx, hb, hml, ho, -⟩ := S
  obtain ⟨-, ⟨cellB, hcB, hoB, hclB⟩, hPc⟩ := hp
  intro T hT X
  rcases vx_callVX X hx (C := C) (hh := hh) (bytes := bytes) (maxL := maxL) (ret := ret) ho hl hin hse hcode hy hK (by rw [hT]; exact hcB) hoB hclB hg (hsize.trans hml.symm) (argsL := As) (rest := rest) (fun sig h => hn.trans (hlen sig h)) hstack hW (by rw [hb]; exact hdg)
    (fun vm₁ hW₁ => ⟨hf.1, hf.2, hPc (T.setVm vm₁) hT hW₁⟩) with ⟨v, vm₁, ⟨U', l2, c2, s2⟩, hW₁, X', ⟨g', mk, t, L, e1, e2, hq, h1, hL, h2, h3⟩, st⟩ | ⟨q, vm₁, ⟨U', l2, c2, s2⟩, hW₁, X', ⟨g', mk, t, L, E, ce, e1, e2, hq, hce, hcv, hcl, h1, hL, h2, h3⟩, st⟩
  · dsimp only [Pt.U, Pt.locs, Pt.cells, Pt.slots] at X' e1 e2 h1 h2 h3 st
    subst h1; subst h2; subst h3
    exact Or.inl ⟨v, (T.setVm vm₁).calling g' mk (Value.ref b :: As).toArray, t, U', L, hT, X', hL, e1, e2, hq, st⟩
  · dsimp only [Pt.U, Pt.locs, Pt.cells, Pt.slots] at X' e1 e2 h1 h2 h3 st hcl
    subst h1; subst h2; subst h3
    exact Or.inr ⟨q, (T.setVm vm₁).calling g' mk (Value.ref b :: As).toArray, t, U', L, E, ce, hT, X', hL, e1, e2, hq, hce, hcv, vx_cls hW₁ hcl, st⟩
theorem vx_runSX {hh : List (Nat × Nat × Nat × Nat)} (S : CallFix p m c cc nL s args Ts own) (hM : vx_Met l y ws rm Pc Qc XC mc ms free) (cw : vx_CSW R s args own index y bytes maxL ret hh ws rm mc ms n) (hp : PreS s H Pc As)
    (hg : g.method = m) (hn : As.length = n) (hsize : g.locals.size = nL) (hstack : g.stack = As.reverse ++ rest) (hW : 2 * g.monitorRoom + (rest.map fun v => v.category).sum ≤ 8) (hdg : decode cc g.pc = .ok (.invokestatic index, 3)) (hf : cells + mc ≤ R.cells ∧ slots + ms ≤ R.slots) :
    vx_Run p l e R s m args below meth c H locs cells slots mc ms g rest (Qc As.toArray) XC free := by
  obtain ⟨⟨hrc, hrs, hfr, hlo, hws, hcw⟩, hcode, hini, hy, hlen, hl, hstt⟩ := cw
  have hK : vx_Back l R p e below s args y 3 8 (PreOf R mc ms Pc) (PostOf Qc mc ms free) (vx_Post XC mc ms free) := vx_backW (hh := hh) (bytes := bytes) (maxL := maxL) (ret := ret) hM hp.1 hrc hrs hfr hlo hws hcw (fun a' U hW => word_at hW (Or.inl (by first | rfl | simp [Cond.onTables, Cond.keeps, Cond.steady])) hini)
  obtain ⟨hx, hb, hml, ho, -⟩ := S
  intro T hT X
  rcases vx_callSX X hx (hh := hh) (bytes := bytes) (maxL := maxL) (ret := ret) ho hl hstt hini hcode hy hK hg (hsize.trans hml.symm) (argsL := As) (rest := rest) (fun sig h => hn.trans (hlen sig h)) hstack hW (by rw [hb]; exact hdg)
    (fun vm₁ hW₁ => ⟨hf.1, hf.2, hp.2 (T.setVm vm₁) hT hW₁⟩) with ⟨v, vm₁, ⟨U', l2, c2, s2⟩, hW₁, X', ⟨g', mk, t, L, e1, e2, hq, h1, hL, h2, h3⟩, st⟩ | ⟨q, vm₁, ⟨U', l2, c2, s2⟩, hW₁, X', ⟨g', mk, t, L, E, ce, e1, e2, hq, hce, hcv, hcl, h1, hL, h2, h3⟩, st⟩
  · dsimp only [Pt.U, Pt.locs, Pt.cells, Pt.slots] at X' e1 e2 h1 h2 h3 st
    subst h1; subst h2; subst h3
    exact Or.inl ⟨v, (T.setVm vm₁).calling g' mk As.toArray, t, U', L, hT, X', hL, e1, e2, hq, st⟩
  · dsimp only [Pt.U, Pt.locs, Pt.cells, Pt.slots] at X' e1 e2 h1 h2 h3 st hcl
    subst h1; subst h2; subst h3
    exact Or.inr ⟨q, (T.setVm vm₁).calling g' mk As.toArray, t, U', L, E, ce, hT, X', hL, e1, e2, hq, hce, hcv, vx_cls hW₁ hcl, st⟩
end
end VXH
theorem vx_ofWH {l : Launch} {y : MethodName} {ws ws' : List Cond} {rm : Room} {Pc : Array Value → State → Prop} {Qc : Array Value → State → Outcome → State → Prop} {XC : String → State → State → Prop} {mc ms : Nat} {free : Addr → Prop} {cc : ByteArray} {maxL : Nat} {ret : Option FieldType} {hh : List (Nat × Nat × Nat × Nat)}
    (hy : plainName y.cls = true) (hw : ws = Cond.codeWith y cc maxL ret hh :: ws')
    (body : ∀ p e s m args below meth c s₁, BodyLoose p l y (headSpec ws rm) cc maxL ret e s m args below meth c s₁ → c.maxLocals = maxL → Pc args s →
      W p l e (headSpec ws rm).room s m args below meth c s.heap [] 0 0 (vx_MQ below Qc XC args s mc ms free) (entryFrame m args maxL)) : vx_Met l y ws rm Pc Qc XC mc ms free := by
  refine MetFree.of_bodyS (code := cc) (maxLocals := maxL) (ret := ret) hy ?_ ?_
  · intro args s m h hn
    obtain ⟨m9, meth, c, hn9, h1, h2, h3, h4, -, h5, h6, -⟩ := Cond.codeWith_spec (atoms_spec (ws := ws) h _ (by rw [hw]; exact List.mem_cons_self))
    cases hn.symm.trans hn9
    exact ⟨meth, c, h1, h2, h3, h4, h5, h6⟩
  · intro p e s m args below meth c s₁ B hml hP _
    have hh0 : s₁.heap = s.heap := by rw [B.state]; rfl
    obtain ⟨t, a1, o, b1, b2, b3⟩ := body p e s m args below meth c s₁ B hml hP s₁ hh0 (Stand.of_body B)
    exact ⟨t, o, a1, b1, b2, b3⟩
/-! ===== END ===== -/
end
section
/-! names: classes, fields, methods, decode rows: by wip/whole/gen/names.py -/
def R_X : String := "NamePattern"
def F_X : u_T := fun k => match k with
  | 0 => ("NamePattern", "textChars", "[I", true)
  | 1 => ("NamePattern", "textLength", "I", false)
  | 2 => ("NamePattern", "patternChars", "[I", true)
  | 3 => ("NamePattern", "quotedChars", "[Z", true)
  | 4 => ("NamePattern", "patternLength", "I", false)
  | _ => ("NamePattern", "starts", "[I", true)
def t_X : Nat → FieldType := fun k => match k with
  | 0 => .array .int
  | 1 => .int
  | 2 => .array .int
  | 3 => .array .boolean
  | 4 => .int
  | _ => .array .int
theorem n_X : ∀ a, a < 6 → ∀ b, b < 6 → a ≠ b → (F_X a).2.1 ≠ (F_X b).2.1 := by decide +kernel
theorem t_X_ok : ∀ k, k < 6 → parseFieldDescriptor (F_X k).2.2.1 = some (t_X k) := by decide +kernel
def R_M : String := "NamePatternModel"
def F_M : u_T := fun k => match k with
  | 0 => ("NamePatternModel", "code", "I", false)
  | 1 => ("NamePatternModel", "text", "[I", true)
  | 2 => ("NamePatternModel", "pattern", "[I", true)
  | 3 => ("NamePatternModel", "quoted", "[Z", true)
  | 4 => ("NamePatternModel", "size", "I", false)
  | 5 => ("NamePatternModel", "many", "I", false)
  | 6 => ("NamePatternModel", "at", "[Z", true)
  | _ => ("NamePatternModel", "next", "[Z", true)
def t_M : Nat → FieldType := fun k => match k with
  | 0 => .int
  | 1 => .array .int
  | 2 => .array .int
  | 3 => .array .boolean
  | 4 => .int
  | 5 => .int
  | 6 => .array .boolean
  | _ => .array .boolean
theorem n_M : ∀ a, a < 8 → ∀ b, b < 8 → a ≠ b → (F_M a).2.1 ≠ (F_M b).2.1 := by decide +kernel
theorem t_M_ok : ∀ k, k < 8 → parseFieldDescriptor (F_M k).2.2.1 = some (t_M k) := by decide +kernel
def R_L : String := "NamePatternLaw"
abbrev classes : List vw_C := [(R_X, F_X, 6), (R_M, F_M, 8)]
abbrev b_X_init : ByteArray := prog_1_method_1_code
def y_X_init : MethodName := ⟨R_X, "<init>", "()V"⟩
abbrev b_X_text : ByteArray := prog_1_method_2_code
def y_X_text : MethodName := ⟨R_X, "text", "(JI)I"⟩
abbrev b_X_pattern : ByteArray := prog_1_method_3_code
def y_X_pattern : MethodName := ⟨R_X, "pattern", "(JII)I"⟩
abbrev b_X_clear : ByteArray := prog_1_method_4_code
def y_X_clear : MethodName := ⟨R_X, "clear", "()I"⟩
abbrev b_X_matches : ByteArray := prog_1_method_5_code
def y_X_matches : MethodName := ⟨R_X, "matches", "()Z"⟩
abbrev b_X_part : ByteArray := prog_1_method_6_code
def y_X_part : MethodName := ⟨R_X, "part", "(II)Z"⟩
abbrev b_X_cut : ByteArray := prog_1_method_7_code
def y_X_cut : MethodName := ⟨R_X, "cut", "(ZZ)I"⟩
abbrev b_X_isSpecial : ByteArray := prog_1_method_8_code
def y_X_isSpecial : MethodName := ⟨R_X, "isSpecial", "()Z"⟩
abbrev b_X_count : ByteArray := prog_1_method_9_code
def y_X_count : MethodName := ⟨R_X, "count", "(I)I"⟩
abbrev b_X_hasRoom : ByteArray := prog_1_method_10_code
def y_X_hasRoom : MethodName := ⟨R_X, "hasRoom", "(III)Z"⟩
abbrev b_X_byteOf : ByteArray := prog_1_method_11_code
def y_X_byteOf : MethodName := ⟨R_X, "byteOf", "(JII)I"⟩
abbrev b_X_quotedCount : ByteArray := prog_1_method_12_code
def y_X_quotedCount : MethodName := ⟨R_X, "quotedCount", "()I"⟩
abbrev b_X_setCount : ByteArray := prog_1_method_13_code
def y_X_setCount : MethodName := ⟨R_X, "setCount", "()I"⟩
abbrev b_X_pieceMatches : ByteArray := prog_1_method_14_code
def y_X_pieceMatches : MethodName := ⟨R_X, "pieceMatches", "(II)Z"⟩
abbrev b_X_matchingBeginning : ByteArray := prog_1_method_15_code
def y_X_matchingBeginning : MethodName := ⟨R_X, "matchingBeginning", "(Z)I"⟩
abbrev b_X_matchingEnd : ByteArray := prog_1_method_16_code
def y_X_matchingEnd : MethodName := ⟨R_X, "matchingEnd", "(Z)I"⟩
abbrev b_X_startOnlyAt : ByteArray := prog_1_method_17_code
def y_X_startOnlyAt : MethodName := ⟨R_X, "startOnlyAt", "(II)V"⟩
abbrev b_X_startAnywhere : ByteArray := prog_1_method_18_code
def y_X_startAnywhere : MethodName := ⟨R_X, "startAnywhere", "()V"⟩
abbrev b_X_readPattern : ByteArray := prog_1_method_19_code
def y_X_readPattern : MethodName := ⟨R_X, "readPattern", "(IIZ)V"⟩
abbrev b_X_takeAnyRow : ByteArray := prog_1_method_20_code
def y_X_takeAnyRow : MethodName := ⟨R_X, "takeAnyRow", "(IIZ)V"⟩
abbrev b_X_better : ByteArray := prog_1_method_21_code
def y_X_better : MethodName := ⟨R_X, "better", "(IIZ)I"⟩
abbrev b_X_takeOne : ByteArray := prog_1_method_22_code
def y_X_takeOne : MethodName := ⟨R_X, "takeOne", "(IIII)V"⟩
abbrev b_X_fits : ByteArray := prog_1_method_23_code
def y_X_fits : MethodName := ⟨R_X, "fits", "(III)Z"⟩
abbrev b_X_closeOf : ByteArray := prog_1_method_24_code
def y_X_closeOf : MethodName := ⟨R_X, "closeOf", "(I)I"⟩
abbrev b_X_firstMember : ByteArray := prog_1_method_25_code
def y_X_firstMember : MethodName := ⟨R_X, "firstMember", "(I)I"⟩
abbrev b_X_isMember : ByteArray := prog_1_method_26_code
def y_X_isMember : MethodName := ⟨R_X, "isMember", "(III)Z"⟩
abbrev b_X_isUnquoted : ByteArray := prog_1_method_27_code
def y_X_isUnquoted : MethodName := ⟨R_X, "isUnquoted", "(IC)Z"⟩
abbrev b_M_init : ByteArray := prog_3_method_1_code
def y_M_init : MethodName := ⟨R_M, "<init>", "()V"⟩
abbrev b_M_thrown : ByteArray := prog_3_method_2_code
def y_M_thrown : MethodName := ⟨R_M, "thrown", "()I"⟩
abbrev b_M_text : ByteArray := prog_3_method_3_code
def y_M_text : MethodName := ⟨R_M, "text", "(JI)I"⟩
abbrev b_M_pattern : ByteArray := prog_3_method_4_code
def y_M_pattern : MethodName := ⟨R_M, "pattern", "(JII)I"⟩
abbrev b_M_clear : ByteArray := prog_3_method_5_code
def y_M_clear : MethodName := ⟨R_M, "clear", "()I"⟩
abbrev b_M_is : ByteArray := prog_3_method_6_code
def y_M_is : MethodName := ⟨R_M, "is", "(II)Z"⟩
abbrev b_M_closed : ByteArray := prog_3_method_7_code
def y_M_closed : MethodName := ⟨R_M, "closed", "(I)I"⟩
abbrev b_M_isMember : ByteArray := prog_3_method_8_code
def y_M_isMember : MethodName := ⟨R_M, "isMember", "(III)Z"⟩
abbrev b_M_takes : ByteArray := prog_3_method_9_code
def y_M_takes : MethodName := ⟨R_M, "takes", "(III)Z"⟩
abbrev b_M_go : ByteArray := prog_3_method_10_code
def y_M_go : MethodName := ⟨R_M, "go", "(II)V"⟩
abbrev b_M_matches : ByteArray := prog_3_method_11_code
def y_M_matches : MethodName := ⟨R_M, "matches", "()Z"⟩
abbrev b_M_part : ByteArray := prog_3_method_12_code
def y_M_part : MethodName := ⟨R_M, "part", "(II)Z"⟩
abbrev b_M_cut : ByteArray := prog_3_method_13_code
def y_M_cut : MethodName := ⟨R_M, "cut", "(ZZ)I"⟩
abbrev b_M_isSpecial : ByteArray := prog_3_method_14_code
def y_M_isSpecial : MethodName := ⟨R_M, "isSpecial", "()Z"⟩
abbrev b_M_count : ByteArray := prog_3_method_15_code
def y_M_count : MethodName := ⟨R_M, "count", "(I)I"⟩
abbrev b_L_part : ByteArray := method_3_code
def y_L_part : MethodName := ⟨R_L, "part", "(LNamePattern;II[J)I"⟩
abbrev b_L_law : ByteArray := code
def y_L_law : MethodName := ⟨R_L, "law", "([I)Z"⟩
end
section
theorem d_X_init_0 : decode b_X_init 0 = .ok (.aload_n 0, 1) := by decide +kernel
theorem d_X_init_1 : decode b_X_init 1 = .ok (.invokespecial 1, 3) := by decide +kernel
theorem d_X_init_4 : decode b_X_init 4 = .ok (.aload_n 0, 1) := by decide +kernel
theorem d_X_init_5 : decode b_X_init 5 = .ok (.sipush 400, 3) := by decide +kernel
theorem d_X_init_8 : decode b_X_init 8 = .ok (.newarray .int, 2) := by decide +kernel
theorem d_X_init_10 : decode b_X_init 10 = .ok (.putfield 9, 3) := by decide +kernel
theorem d_X_init_13 : decode b_X_init 13 = .ok (.aload_n 0, 1) := by decide +kernel
theorem d_X_init_14 : decode b_X_init 14 = .ok (.iconst 0, 1) := by decide +kernel
theorem d_X_init_15 : decode b_X_init 15 = .ok (.putfield 13, 3) := by decide +kernel
theorem d_X_init_18 : decode b_X_init 18 = .ok (.aload_n 0, 1) := by decide +kernel
theorem d_X_init_19 : decode b_X_init 19 = .ok (.sipush 200, 3) := by decide +kernel
theorem d_X_init_22 : decode b_X_init 22 = .ok (.newarray .int, 2) := by decide +kernel
theorem d_X_init_24 : decode b_X_init 24 = .ok (.putfield 17, 3) := by decide +kernel
theorem d_X_init_27 : decode b_X_init 27 = .ok (.aload_n 0, 1) := by decide +kernel
theorem d_X_init_28 : decode b_X_init 28 = .ok (.sipush 200, 3) := by decide +kernel
theorem d_X_init_31 : decode b_X_init 31 = .ok (.newarray .boolean, 2) := by decide +kernel
theorem d_X_init_33 : decode b_X_init 33 = .ok (.putfield 20, 3) := by decide +kernel
theorem d_X_init_36 : decode b_X_init 36 = .ok (.aload_n 0, 1) := by decide +kernel
theorem d_X_init_37 : decode b_X_init 37 = .ok (.iconst 0, 1) := by decide +kernel
theorem d_X_init_38 : decode b_X_init 38 = .ok (.putfield 24, 3) := by decide +kernel
theorem d_X_init_41 : decode b_X_init 41 = .ok (.aload_n 0, 1) := by decide +kernel
theorem d_X_init_42 : decode b_X_init 42 = .ok (.sipush 401, 3) := by decide +kernel
theorem d_X_init_45 : decode b_X_init 45 = .ok (.newarray .int, 2) := by decide +kernel
theorem d_X_init_47 : decode b_X_init 47 = .ok (.putfield 27, 3) := by decide +kernel
theorem d_X_init_50 : decode b_X_init 50 = .ok (.return_, 1) := by decide +kernel
theorem d_X_text_0 : decode b_X_text 0 = .ok (.aload_n 0, 1) := by decide +kernel
theorem d_X_text_1 : decode b_X_text 1 = .ok (.getfield 13, 3) := by decide +kernel
theorem d_X_text_4 : decode b_X_text 4 = .ok (.iload_n 3, 1) := by decide +kernel
theorem d_X_text_5 : decode b_X_text 5 = .ok (.sipush 400, 3) := by decide +kernel
theorem d_X_text_8 : decode b_X_text 8 = .ok (.invokestatic 30, 3) := by decide +kernel
theorem d_X_text_11 : decode b_X_text 11 = .ok (.ifCond .ne 5, 3) := by decide +kernel
theorem d_X_text_14 : decode b_X_text 14 = .ok (.iconst (-1), 1) := by decide +kernel
theorem d_X_text_15 : decode b_X_text 15 = .ok (.ireturn, 1) := by decide +kernel
theorem d_X_text_16 : decode b_X_text 16 = .ok (.iconst 0, 1) := by decide +kernel
theorem d_X_text_17 : decode b_X_text 17 = .ok (.istore 4, 2) := by decide +kernel
theorem d_X_text_19 : decode b_X_text 19 = .ok (.iload 4, 2) := by decide +kernel
theorem d_X_text_21 : decode b_X_text 21 = .ok (.iload_n 3, 1) := by decide +kernel
theorem d_X_text_22 : decode b_X_text 22 = .ok (.if_icmp .ge 28, 3) := by decide +kernel
theorem d_X_text_25 : decode b_X_text 25 = .ok (.aload_n 0, 1) := by decide +kernel
theorem d_X_text_26 : decode b_X_text 26 = .ok (.getfield 9, 3) := by decide +kernel
theorem d_X_text_29 : decode b_X_text 29 = .ok (.aload_n 0, 1) := by decide +kernel
theorem d_X_text_30 : decode b_X_text 30 = .ok (.getfield 13, 3) := by decide +kernel
theorem d_X_text_33 : decode b_X_text 33 = .ok (.iload 4, 2) := by decide +kernel
theorem d_X_text_35 : decode b_X_text 35 = .ok (.iadd, 1) := by decide +kernel
theorem d_X_text_36 : decode b_X_text 36 = .ok (.lload_n 1, 1) := by decide +kernel
theorem d_X_text_37 : decode b_X_text 37 = .ok (.iload_n 3, 1) := by decide +kernel
theorem d_X_text_38 : decode b_X_text 38 = .ok (.iload 4, 2) := by decide +kernel
theorem d_X_text_40 : decode b_X_text 40 = .ok (.invokestatic 34, 3) := by decide +kernel
theorem d_X_text_43 : decode b_X_text 43 = .ok (.iastore, 1) := by decide +kernel
theorem d_X_text_44 : decode b_X_text 44 = .ok (.iinc 4 1, 3) := by decide +kernel
theorem d_X_text_47 : decode b_X_text 47 = .ok (.goto (-28), 3) := by decide +kernel
theorem d_X_text_50 : decode b_X_text 50 = .ok (.aload_n 0, 1) := by decide +kernel
theorem d_X_text_51 : decode b_X_text 51 = .ok (.dup, 1) := by decide +kernel
theorem d_X_text_52 : decode b_X_text 52 = .ok (.getfield 13, 3) := by decide +kernel
theorem d_X_text_55 : decode b_X_text 55 = .ok (.iload_n 3, 1) := by decide +kernel
theorem d_X_text_56 : decode b_X_text 56 = .ok (.iadd, 1) := by decide +kernel
theorem d_X_text_57 : decode b_X_text 57 = .ok (.putfield 13, 3) := by decide +kernel
theorem d_X_text_60 : decode b_X_text 60 = .ok (.aload_n 0, 1) := by decide +kernel
theorem d_X_text_61 : decode b_X_text 61 = .ok (.getfield 13, 3) := by decide +kernel
theorem d_X_text_64 : decode b_X_text 64 = .ok (.ireturn, 1) := by decide +kernel
theorem d_X_pattern_0 : decode b_X_pattern 0 = .ok (.aload_n 0, 1) := by decide +kernel
theorem d_X_pattern_1 : decode b_X_pattern 1 = .ok (.getfield 24, 3) := by decide +kernel
theorem d_X_pattern_4 : decode b_X_pattern 4 = .ok (.iload_n 3, 1) := by decide +kernel
theorem d_X_pattern_5 : decode b_X_pattern 5 = .ok (.sipush 200, 3) := by decide +kernel
theorem d_X_pattern_8 : decode b_X_pattern 8 = .ok (.invokestatic 30, 3) := by decide +kernel
theorem d_X_pattern_11 : decode b_X_pattern 11 = .ok (.ifCond .ne 5, 3) := by decide +kernel
theorem d_X_pattern_14 : decode b_X_pattern 14 = .ok (.iconst (-1), 1) := by decide +kernel
theorem d_X_pattern_15 : decode b_X_pattern 15 = .ok (.ireturn, 1) := by decide +kernel
theorem d_X_pattern_16 : decode b_X_pattern 16 = .ok (.iconst 0, 1) := by decide +kernel
theorem d_X_pattern_17 : decode b_X_pattern 17 = .ok (.istore 5, 2) := by decide +kernel
theorem d_X_pattern_19 : decode b_X_pattern 19 = .ok (.iload 5, 2) := by decide +kernel
theorem d_X_pattern_21 : decode b_X_pattern 21 = .ok (.iload_n 3, 1) := by decide +kernel
theorem d_X_pattern_22 : decode b_X_pattern 22 = .ok (.if_icmp .ge 56, 3) := by decide +kernel
theorem d_X_pattern_25 : decode b_X_pattern 25 = .ok (.aload_n 0, 1) := by decide +kernel
theorem d_X_pattern_26 : decode b_X_pattern 26 = .ok (.getfield 17, 3) := by decide +kernel
theorem d_X_pattern_29 : decode b_X_pattern 29 = .ok (.aload_n 0, 1) := by decide +kernel
theorem d_X_pattern_30 : decode b_X_pattern 30 = .ok (.getfield 24, 3) := by decide +kernel
theorem d_X_pattern_33 : decode b_X_pattern 33 = .ok (.iload 5, 2) := by decide +kernel
theorem d_X_pattern_35 : decode b_X_pattern 35 = .ok (.iadd, 1) := by decide +kernel
theorem d_X_pattern_36 : decode b_X_pattern 36 = .ok (.lload_n 1, 1) := by decide +kernel
theorem d_X_pattern_37 : decode b_X_pattern 37 = .ok (.iload_n 3, 1) := by decide +kernel
theorem d_X_pattern_38 : decode b_X_pattern 38 = .ok (.iload 5, 2) := by decide +kernel
theorem d_X_pattern_40 : decode b_X_pattern 40 = .ok (.invokestatic 34, 3) := by decide +kernel
theorem d_X_pattern_43 : decode b_X_pattern 43 = .ok (.iastore, 1) := by decide +kernel
theorem d_X_pattern_44 : decode b_X_pattern 44 = .ok (.aload_n 0, 1) := by decide +kernel
theorem d_X_pattern_45 : decode b_X_pattern 45 = .ok (.getfield 20, 3) := by decide +kernel
theorem d_X_pattern_48 : decode b_X_pattern 48 = .ok (.aload_n 0, 1) := by decide +kernel
theorem d_X_pattern_49 : decode b_X_pattern 49 = .ok (.getfield 24, 3) := by decide +kernel
theorem d_X_pattern_52 : decode b_X_pattern 52 = .ok (.iload 5, 2) := by decide +kernel
theorem d_X_pattern_54 : decode b_X_pattern 54 = .ok (.iadd, 1) := by decide +kernel
theorem d_X_pattern_55 : decode b_X_pattern 55 = .ok (.iload 4, 2) := by decide +kernel
theorem d_X_pattern_57 : decode b_X_pattern 57 = .ok (.iload 5, 2) := by decide +kernel
theorem d_X_pattern_59 : decode b_X_pattern 59 = .ok (.iushr, 1) := by decide +kernel
theorem d_X_pattern_60 : decode b_X_pattern 60 = .ok (.iconst 1, 1) := by decide +kernel
theorem d_X_pattern_61 : decode b_X_pattern 61 = .ok (.iand, 1) := by decide +kernel
theorem d_X_pattern_62 : decode b_X_pattern 62 = .ok (.iconst 1, 1) := by decide +kernel
theorem d_X_pattern_63 : decode b_X_pattern 63 = .ok (.if_icmp .ne 7, 3) := by decide +kernel
theorem d_X_pattern_66 : decode b_X_pattern 66 = .ok (.iconst 1, 1) := by decide +kernel
theorem d_X_pattern_67 : decode b_X_pattern 67 = .ok (.goto 4, 3) := by decide +kernel
theorem d_X_pattern_70 : decode b_X_pattern 70 = .ok (.iconst 0, 1) := by decide +kernel
theorem d_X_pattern_71 : decode b_X_pattern 71 = .ok (.bastore, 1) := by decide +kernel
theorem d_X_pattern_72 : decode b_X_pattern 72 = .ok (.iinc 5 1, 3) := by decide +kernel
theorem d_X_pattern_75 : decode b_X_pattern 75 = .ok (.goto (-56), 3) := by decide +kernel
theorem d_X_pattern_78 : decode b_X_pattern 78 = .ok (.aload_n 0, 1) := by decide +kernel
theorem d_X_pattern_79 : decode b_X_pattern 79 = .ok (.dup, 1) := by decide +kernel
theorem d_X_pattern_80 : decode b_X_pattern 80 = .ok (.getfield 24, 3) := by decide +kernel
theorem d_X_pattern_83 : decode b_X_pattern 83 = .ok (.iload_n 3, 1) := by decide +kernel
theorem d_X_pattern_84 : decode b_X_pattern 84 = .ok (.iadd, 1) := by decide +kernel
theorem d_X_pattern_85 : decode b_X_pattern 85 = .ok (.putfield 24, 3) := by decide +kernel
theorem d_X_pattern_88 : decode b_X_pattern 88 = .ok (.aload_n 0, 1) := by decide +kernel
theorem d_X_pattern_89 : decode b_X_pattern 89 = .ok (.getfield 24, 3) := by decide +kernel
theorem d_X_pattern_92 : decode b_X_pattern 92 = .ok (.ireturn, 1) := by decide +kernel
theorem d_X_clear_0 : decode b_X_clear 0 = .ok (.aload_n 0, 1) := by decide +kernel
theorem d_X_clear_1 : decode b_X_clear 1 = .ok (.getfield 13, 3) := by decide +kernel
theorem d_X_clear_4 : decode b_X_clear 4 = .ok (.istore_n 1, 1) := by decide +kernel
theorem d_X_clear_5 : decode b_X_clear 5 = .ok (.aload_n 0, 1) := by decide +kernel
theorem d_X_clear_6 : decode b_X_clear 6 = .ok (.iconst 0, 1) := by decide +kernel
theorem d_X_clear_7 : decode b_X_clear 7 = .ok (.putfield 13, 3) := by decide +kernel
theorem d_X_clear_10 : decode b_X_clear 10 = .ok (.aload_n 0, 1) := by decide +kernel
theorem d_X_clear_11 : decode b_X_clear 11 = .ok (.iconst 0, 1) := by decide +kernel
theorem d_X_clear_12 : decode b_X_clear 12 = .ok (.putfield 24, 3) := by decide +kernel
theorem d_X_clear_15 : decode b_X_clear 15 = .ok (.iload_n 1, 1) := by decide +kernel
theorem d_X_clear_16 : decode b_X_clear 16 = .ok (.ireturn, 1) := by decide +kernel
theorem d_X_matches_0 : decode b_X_matches 0 = .ok (.aload_n 0, 1) := by decide +kernel
theorem d_X_matches_1 : decode b_X_matches 1 = .ok (.iconst 0, 1) := by decide +kernel
theorem d_X_matches_2 : decode b_X_matches 2 = .ok (.aload_n 0, 1) := by decide +kernel
theorem d_X_matches_3 : decode b_X_matches 3 = .ok (.getfield 13, 3) := by decide +kernel
theorem d_X_matches_6 : decode b_X_matches 6 = .ok (.invokevirtual 38, 3) := by decide +kernel
theorem d_X_matches_9 : decode b_X_matches 9 = .ok (.ireturn, 1) := by decide +kernel
theorem d_X_part_0 : decode b_X_part 0 = .ok (.iload_n 1, 1) := by decide +kernel
theorem d_X_part_1 : decode b_X_part 1 = .ok (.ifCond .lt 16, 3) := by decide +kernel
theorem d_X_part_4 : decode b_X_part 4 = .ok (.iload_n 2, 1) := by decide +kernel
theorem d_X_part_5 : decode b_X_part 5 = .ok (.iload_n 1, 1) := by decide +kernel
theorem d_X_part_6 : decode b_X_part 6 = .ok (.if_icmp .lt 11, 3) := by decide +kernel
theorem d_X_part_9 : decode b_X_part 9 = .ok (.iload_n 2, 1) := by decide +kernel
theorem d_X_part_10 : decode b_X_part 10 = .ok (.aload_n 0, 1) := by decide +kernel
theorem d_X_part_11 : decode b_X_part 11 = .ok (.getfield 13, 3) := by decide +kernel
theorem d_X_part_14 : decode b_X_part 14 = .ok (.if_icmp .le 13, 3) := by decide +kernel
theorem d_X_part_17 : decode b_X_part 17 = .ok (.new 42, 3) := by decide +kernel
theorem d_X_part_20 : decode b_X_part 20 = .ok (.dup, 1) := by decide +kernel
theorem d_X_part_21 : decode b_X_part 21 = .ok (.ldc 44, 2) := by decide +kernel
theorem d_X_part_23 : decode b_X_part 23 = .ok (.invokespecial 46, 3) := by decide +kernel
theorem d_X_part_26 : decode b_X_part 26 = .ok (.athrow, 1) := by decide +kernel
theorem d_X_part_27 : decode b_X_part 27 = .ok (.aload_n 0, 1) := by decide +kernel
theorem d_X_part_28 : decode b_X_part 28 = .ok (.iload_n 1, 1) := by decide +kernel
theorem d_X_part_29 : decode b_X_part 29 = .ok (.iload_n 2, 1) := by decide +kernel
theorem d_X_part_30 : decode b_X_part 30 = .ok (.invokevirtual 38, 3) := by decide +kernel
theorem d_X_part_33 : decode b_X_part 33 = .ok (.ireturn, 1) := by decide +kernel
theorem d_X_cut_0 : decode b_X_cut 0 = .ok (.iload_n 1, 1) := by decide +kernel
theorem d_X_cut_1 : decode b_X_cut 1 = .ok (.ifCond .eq 11, 3) := by decide +kernel
theorem d_X_cut_4 : decode b_X_cut 4 = .ok (.aload_n 0, 1) := by decide +kernel
theorem d_X_cut_5 : decode b_X_cut 5 = .ok (.iload_n 2, 1) := by decide +kernel
theorem d_X_cut_6 : decode b_X_cut 6 = .ok (.invokevirtual 49, 3) := by decide +kernel
theorem d_X_cut_9 : decode b_X_cut 9 = .ok (.goto 8, 3) := by decide +kernel
theorem d_X_cut_12 : decode b_X_cut 12 = .ok (.aload_n 0, 1) := by decide +kernel
theorem d_X_cut_13 : decode b_X_cut 13 = .ok (.iload_n 2, 1) := by decide +kernel
theorem d_X_cut_14 : decode b_X_cut 14 = .ok (.invokevirtual 53, 3) := by decide +kernel
theorem d_X_cut_17 : decode b_X_cut 17 = .ok (.ireturn, 1) := by decide +kernel
theorem d_X_isSpecial_0 : decode b_X_isSpecial 0 = .ok (.iconst 0, 1) := by decide +kernel
theorem d_X_isSpecial_1 : decode b_X_isSpecial 1 = .ok (.istore_n 1, 1) := by decide +kernel
theorem d_X_isSpecial_2 : decode b_X_isSpecial 2 = .ok (.iload_n 1, 1) := by decide +kernel
theorem d_X_isSpecial_3 : decode b_X_isSpecial 3 = .ok (.aload_n 0, 1) := by decide +kernel
theorem d_X_isSpecial_4 : decode b_X_isSpecial 4 = .ok (.getfield 24, 3) := by decide +kernel
theorem d_X_isSpecial_7 : decode b_X_isSpecial 7 = .ok (.if_icmp .ge 41, 3) := by decide +kernel
theorem d_X_isSpecial_10 : decode b_X_isSpecial 10 = .ok (.aload_n 0, 1) := by decide +kernel
theorem d_X_isSpecial_11 : decode b_X_isSpecial 11 = .ok (.iload_n 1, 1) := by decide +kernel
theorem d_X_isSpecial_12 : decode b_X_isSpecial 12 = .ok (.bipush 42, 2) := by decide +kernel
theorem d_X_isSpecial_14 : decode b_X_isSpecial 14 = .ok (.invokevirtual 56, 3) := by decide +kernel
theorem d_X_isSpecial_17 : decode b_X_isSpecial 17 = .ok (.ifCond .ne 23, 3) := by decide +kernel
theorem d_X_isSpecial_20 : decode b_X_isSpecial 20 = .ok (.aload_n 0, 1) := by decide +kernel
theorem d_X_isSpecial_21 : decode b_X_isSpecial 21 = .ok (.iload_n 1, 1) := by decide +kernel
theorem d_X_isSpecial_22 : decode b_X_isSpecial 22 = .ok (.bipush 63, 2) := by decide +kernel
theorem d_X_isSpecial_24 : decode b_X_isSpecial 24 = .ok (.invokevirtual 56, 3) := by decide +kernel
theorem d_X_isSpecial_27 : decode b_X_isSpecial 27 = .ok (.ifCond .ne 13, 3) := by decide +kernel
theorem d_X_isSpecial_30 : decode b_X_isSpecial 30 = .ok (.aload_n 0, 1) := by decide +kernel
theorem d_X_isSpecial_31 : decode b_X_isSpecial 31 = .ok (.iload_n 1, 1) := by decide +kernel
theorem d_X_isSpecial_32 : decode b_X_isSpecial 32 = .ok (.bipush 91, 2) := by decide +kernel
theorem d_X_isSpecial_34 : decode b_X_isSpecial 34 = .ok (.invokevirtual 56, 3) := by decide +kernel
theorem d_X_isSpecial_37 : decode b_X_isSpecial 37 = .ok (.ifCond .eq 5, 3) := by decide +kernel
theorem d_X_isSpecial_40 : decode b_X_isSpecial 40 = .ok (.iconst 1, 1) := by decide +kernel
theorem d_X_isSpecial_41 : decode b_X_isSpecial 41 = .ok (.ireturn, 1) := by decide +kernel
theorem d_X_isSpecial_42 : decode b_X_isSpecial 42 = .ok (.iinc 1 1, 3) := by decide +kernel
theorem d_X_isSpecial_45 : decode b_X_isSpecial 45 = .ok (.goto (-43), 3) := by decide +kernel
theorem d_X_isSpecial_48 : decode b_X_isSpecial 48 = .ok (.iconst 0, 1) := by decide +kernel
theorem d_X_isSpecial_49 : decode b_X_isSpecial 49 = .ok (.ireturn, 1) := by decide +kernel
theorem d_X_count_0 : decode b_X_count 0 = .ok (.iload_n 1, 1) := by decide +kernel
theorem d_X_count_1 : decode b_X_count 1 = .ok (.tableswitch 51 0 3 #[31, 36, 41, 46], 31) := by decide +kernel
theorem d_X_count_32 : decode b_X_count 32 = .ok (.aload_n 0, 1) := by decide +kernel
theorem d_X_count_33 : decode b_X_count 33 = .ok (.getfield 13, 3) := by decide +kernel
theorem d_X_count_36 : decode b_X_count 36 = .ok (.ireturn, 1) := by decide +kernel
theorem d_X_count_37 : decode b_X_count 37 = .ok (.aload_n 0, 1) := by decide +kernel
theorem d_X_count_38 : decode b_X_count 38 = .ok (.getfield 24, 3) := by decide +kernel
theorem d_X_count_41 : decode b_X_count 41 = .ok (.ireturn, 1) := by decide +kernel
theorem d_X_count_42 : decode b_X_count 42 = .ok (.aload_n 0, 1) := by decide +kernel
theorem d_X_count_43 : decode b_X_count 43 = .ok (.invokevirtual 60, 3) := by decide +kernel
theorem d_X_count_46 : decode b_X_count 46 = .ok (.ireturn, 1) := by decide +kernel
theorem d_X_count_47 : decode b_X_count 47 = .ok (.aload_n 0, 1) := by decide +kernel
theorem d_X_count_48 : decode b_X_count 48 = .ok (.invokevirtual 64, 3) := by decide +kernel
theorem d_X_count_51 : decode b_X_count 51 = .ok (.ireturn, 1) := by decide +kernel
theorem d_X_count_52 : decode b_X_count 52 = .ok (.iconst (-1), 1) := by decide +kernel
theorem d_X_count_53 : decode b_X_count 53 = .ok (.ireturn, 1) := by decide +kernel
theorem d_X_hasRoom_0 : decode b_X_hasRoom 0 = .ok (.iload_n 1, 1) := by decide +kernel
theorem d_X_hasRoom_1 : decode b_X_hasRoom 1 = .ok (.ifCond .lt 20, 3) := by decide +kernel
theorem d_X_hasRoom_4 : decode b_X_hasRoom 4 = .ok (.iload_n 1, 1) := by decide +kernel
theorem d_X_hasRoom_5 : decode b_X_hasRoom 5 = .ok (.bipush 8, 2) := by decide +kernel
theorem d_X_hasRoom_7 : decode b_X_hasRoom 7 = .ok (.if_icmp .gt 14, 3) := by decide +kernel
theorem d_X_hasRoom_10 : decode b_X_hasRoom 10 = .ok (.iload_n 0, 1) := by decide +kernel
theorem d_X_hasRoom_11 : decode b_X_hasRoom 11 = .ok (.iload_n 1, 1) := by decide +kernel
theorem d_X_hasRoom_12 : decode b_X_hasRoom 12 = .ok (.iadd, 1) := by decide +kernel
theorem d_X_hasRoom_13 : decode b_X_hasRoom 13 = .ok (.iload_n 2, 1) := by decide +kernel
theorem d_X_hasRoom_14 : decode b_X_hasRoom 14 = .ok (.if_icmp .gt 7, 3) := by decide +kernel
theorem d_X_hasRoom_17 : decode b_X_hasRoom 17 = .ok (.iconst 1, 1) := by decide +kernel
theorem d_X_hasRoom_18 : decode b_X_hasRoom 18 = .ok (.goto 4, 3) := by decide +kernel
theorem d_X_hasRoom_21 : decode b_X_hasRoom 21 = .ok (.iconst 0, 1) := by decide +kernel
theorem d_X_hasRoom_22 : decode b_X_hasRoom 22 = .ok (.ireturn, 1) := by decide +kernel
theorem d_X_byteOf_0 : decode b_X_byteOf 0 = .ok (.lload_n 0, 1) := by decide +kernel
theorem d_X_byteOf_1 : decode b_X_byteOf 1 = .ok (.bipush 8, 2) := by decide +kernel
theorem d_X_byteOf_3 : decode b_X_byteOf 3 = .ok (.iload_n 2, 1) := by decide +kernel
theorem d_X_byteOf_4 : decode b_X_byteOf 4 = .ok (.iconst 1, 1) := by decide +kernel
theorem d_X_byteOf_5 : decode b_X_byteOf 5 = .ok (.isub, 1) := by decide +kernel
theorem d_X_byteOf_6 : decode b_X_byteOf 6 = .ok (.iload_n 3, 1) := by decide +kernel
theorem d_X_byteOf_7 : decode b_X_byteOf 7 = .ok (.isub, 1) := by decide +kernel
theorem d_X_byteOf_8 : decode b_X_byteOf 8 = .ok (.imul, 1) := by decide +kernel
theorem d_X_byteOf_9 : decode b_X_byteOf 9 = .ok (.lushr, 1) := by decide +kernel
theorem d_X_byteOf_10 : decode b_X_byteOf 10 = .ok (.ldc2_w 67, 3) := by decide +kernel
theorem d_X_byteOf_13 : decode b_X_byteOf 13 = .ok (.land, 1) := by decide +kernel
theorem d_X_byteOf_14 : decode b_X_byteOf 14 = .ok (.l2i, 1) := by decide +kernel
theorem d_X_byteOf_15 : decode b_X_byteOf 15 = .ok (.ireturn, 1) := by decide +kernel
theorem d_X_quotedCount_0 : decode b_X_quotedCount 0 = .ok (.iconst 0, 1) := by decide +kernel
theorem d_X_quotedCount_1 : decode b_X_quotedCount 1 = .ok (.istore_n 1, 1) := by decide +kernel
theorem d_X_quotedCount_2 : decode b_X_quotedCount 2 = .ok (.iconst 0, 1) := by decide +kernel
theorem d_X_quotedCount_3 : decode b_X_quotedCount 3 = .ok (.istore_n 2, 1) := by decide +kernel
theorem d_X_quotedCount_4 : decode b_X_quotedCount 4 = .ok (.iload_n 2, 1) := by decide +kernel
theorem d_X_quotedCount_5 : decode b_X_quotedCount 5 = .ok (.aload_n 0, 1) := by decide +kernel
theorem d_X_quotedCount_6 : decode b_X_quotedCount 6 = .ok (.getfield 24, 3) := by decide +kernel
theorem d_X_quotedCount_9 : decode b_X_quotedCount 9 = .ok (.if_icmp .ge 21, 3) := by decide +kernel
theorem d_X_quotedCount_12 : decode b_X_quotedCount 12 = .ok (.aload_n 0, 1) := by decide +kernel
theorem d_X_quotedCount_13 : decode b_X_quotedCount 13 = .ok (.getfield 20, 3) := by decide +kernel
theorem d_X_quotedCount_16 : decode b_X_quotedCount 16 = .ok (.iload_n 2, 1) := by decide +kernel
theorem d_X_quotedCount_17 : decode b_X_quotedCount 17 = .ok (.baload, 1) := by decide +kernel
theorem d_X_quotedCount_18 : decode b_X_quotedCount 18 = .ok (.ifCond .eq 6, 3) := by decide +kernel
theorem d_X_quotedCount_21 : decode b_X_quotedCount 21 = .ok (.iinc 1 1, 3) := by decide +kernel
theorem d_X_quotedCount_24 : decode b_X_quotedCount 24 = .ok (.iinc 2 1, 3) := by decide +kernel
theorem d_X_quotedCount_27 : decode b_X_quotedCount 27 = .ok (.goto (-23), 3) := by decide +kernel
theorem d_X_quotedCount_30 : decode b_X_quotedCount 30 = .ok (.iload_n 1, 1) := by decide +kernel
theorem d_X_quotedCount_31 : decode b_X_quotedCount 31 = .ok (.ireturn, 1) := by decide +kernel
theorem d_X_setCount_0 : decode b_X_setCount 0 = .ok (.iconst 0, 1) := by decide +kernel
theorem d_X_setCount_1 : decode b_X_setCount 1 = .ok (.istore_n 1, 1) := by decide +kernel
theorem d_X_setCount_2 : decode b_X_setCount 2 = .ok (.iconst 0, 1) := by decide +kernel
theorem d_X_setCount_3 : decode b_X_setCount 3 = .ok (.istore_n 2, 1) := by decide +kernel
theorem d_X_setCount_4 : decode b_X_setCount 4 = .ok (.iload_n 2, 1) := by decide +kernel
theorem d_X_setCount_5 : decode b_X_setCount 5 = .ok (.aload_n 0, 1) := by decide +kernel
theorem d_X_setCount_6 : decode b_X_setCount 6 = .ok (.getfield 24, 3) := by decide +kernel
theorem d_X_setCount_9 : decode b_X_setCount 9 = .ok (.if_icmp .ge 21, 3) := by decide +kernel
theorem d_X_setCount_12 : decode b_X_setCount 12 = .ok (.aload_n 0, 1) := by decide +kernel
theorem d_X_setCount_13 : decode b_X_setCount 13 = .ok (.iload_n 2, 1) := by decide +kernel
theorem d_X_setCount_14 : decode b_X_setCount 14 = .ok (.invokevirtual 69, 3) := by decide +kernel
theorem d_X_setCount_17 : decode b_X_setCount 17 = .ok (.iconst (-1), 1) := by decide +kernel
theorem d_X_setCount_18 : decode b_X_setCount 18 = .ok (.if_icmp .eq 6, 3) := by decide +kernel
theorem d_X_setCount_21 : decode b_X_setCount 21 = .ok (.iinc 1 1, 3) := by decide +kernel
theorem d_X_setCount_24 : decode b_X_setCount 24 = .ok (.iinc 2 1, 3) := by decide +kernel
theorem d_X_setCount_27 : decode b_X_setCount 27 = .ok (.goto (-23), 3) := by decide +kernel
theorem d_X_setCount_30 : decode b_X_setCount 30 = .ok (.iload_n 1, 1) := by decide +kernel
theorem d_X_setCount_31 : decode b_X_setCount 31 = .ok (.ireturn, 1) := by decide +kernel
theorem d_X_pieceMatches_0 : decode b_X_pieceMatches 0 = .ok (.aload_n 0, 1) := by decide +kernel
theorem d_X_pieceMatches_1 : decode b_X_pieceMatches 1 = .ok (.iload_n 1, 1) := by decide +kernel
theorem d_X_pieceMatches_2 : decode b_X_pieceMatches 2 = .ok (.iload_n 2, 1) := by decide +kernel
theorem d_X_pieceMatches_3 : decode b_X_pieceMatches 3 = .ok (.invokevirtual 73, 3) := by decide +kernel
theorem d_X_pieceMatches_6 : decode b_X_pieceMatches 6 = .ok (.aload_n 0, 1) := by decide +kernel
theorem d_X_pieceMatches_7 : decode b_X_pieceMatches 7 = .ok (.iload_n 1, 1) := by decide +kernel
theorem d_X_pieceMatches_8 : decode b_X_pieceMatches 8 = .ok (.iload_n 2, 1) := by decide +kernel
theorem d_X_pieceMatches_9 : decode b_X_pieceMatches 9 = .ok (.iconst 0, 1) := by decide +kernel
theorem d_X_pieceMatches_10 : decode b_X_pieceMatches 10 = .ok (.invokevirtual 77, 3) := by decide +kernel
theorem d_X_pieceMatches_13 : decode b_X_pieceMatches 13 = .ok (.aload_n 0, 1) := by decide +kernel
theorem d_X_pieceMatches_14 : decode b_X_pieceMatches 14 = .ok (.getfield 27, 3) := by decide +kernel
theorem d_X_pieceMatches_17 : decode b_X_pieceMatches 17 = .ok (.iload_n 2, 1) := by decide +kernel
theorem d_X_pieceMatches_18 : decode b_X_pieceMatches 18 = .ok (.iaload, 1) := by decide +kernel
theorem d_X_pieceMatches_19 : decode b_X_pieceMatches 19 = .ok (.iconst (-1), 1) := by decide +kernel
theorem d_X_pieceMatches_20 : decode b_X_pieceMatches 20 = .ok (.if_icmp .eq 7, 3) := by decide +kernel
theorem d_X_pieceMatches_23 : decode b_X_pieceMatches 23 = .ok (.iconst 1, 1) := by decide +kernel
theorem d_X_pieceMatches_24 : decode b_X_pieceMatches 24 = .ok (.goto 4, 3) := by decide +kernel
theorem d_X_pieceMatches_27 : decode b_X_pieceMatches 27 = .ok (.iconst 0, 1) := by decide +kernel
theorem d_X_pieceMatches_28 : decode b_X_pieceMatches 28 = .ok (.ireturn, 1) := by decide +kernel
theorem d_X_matchingBeginning_0 : decode b_X_matchingBeginning 0 = .ok (.aload_n 0, 1) := by decide +kernel
theorem d_X_matchingBeginning_1 : decode b_X_matchingBeginning 1 = .ok (.iconst 0, 1) := by decide +kernel
theorem d_X_matchingBeginning_2 : decode b_X_matchingBeginning 2 = .ok (.aload_n 0, 1) := by decide +kernel
theorem d_X_matchingBeginning_3 : decode b_X_matchingBeginning 3 = .ok (.getfield 13, 3) := by decide +kernel
theorem d_X_matchingBeginning_6 : decode b_X_matchingBeginning 6 = .ok (.invokevirtual 73, 3) := by decide +kernel
theorem d_X_matchingBeginning_9 : decode b_X_matchingBeginning 9 = .ok (.aload_n 0, 1) := by decide +kernel
theorem d_X_matchingBeginning_10 : decode b_X_matchingBeginning 10 = .ok (.iconst 0, 1) := by decide +kernel
theorem d_X_matchingBeginning_11 : decode b_X_matchingBeginning 11 = .ok (.aload_n 0, 1) := by decide +kernel
theorem d_X_matchingBeginning_12 : decode b_X_matchingBeginning 12 = .ok (.getfield 13, 3) := by decide +kernel
theorem d_X_matchingBeginning_15 : decode b_X_matchingBeginning 15 = .ok (.iconst 0, 1) := by decide +kernel
theorem d_X_matchingBeginning_16 : decode b_X_matchingBeginning 16 = .ok (.invokevirtual 77, 3) := by decide +kernel
theorem d_X_matchingBeginning_19 : decode b_X_matchingBeginning 19 = .ok (.iconst (-1), 1) := by decide +kernel
theorem d_X_matchingBeginning_20 : decode b_X_matchingBeginning 20 = .ok (.istore_n 2, 1) := by decide +kernel
theorem d_X_matchingBeginning_21 : decode b_X_matchingBeginning 21 = .ok (.iconst 0, 1) := by decide +kernel
theorem d_X_matchingBeginning_22 : decode b_X_matchingBeginning 22 = .ok (.istore_n 3, 1) := by decide +kernel
theorem d_X_matchingBeginning_23 : decode b_X_matchingBeginning 23 = .ok (.iload_n 3, 1) := by decide +kernel
theorem d_X_matchingBeginning_24 : decode b_X_matchingBeginning 24 = .ok (.aload_n 0, 1) := by decide +kernel
theorem d_X_matchingBeginning_25 : decode b_X_matchingBeginning 25 = .ok (.getfield 13, 3) := by decide +kernel
theorem d_X_matchingBeginning_28 : decode b_X_matchingBeginning 28 = .ok (.if_icmp .gt 30, 3) := by decide +kernel
theorem d_X_matchingBeginning_31 : decode b_X_matchingBeginning 31 = .ok (.aload_n 0, 1) := by decide +kernel
theorem d_X_matchingBeginning_32 : decode b_X_matchingBeginning 32 = .ok (.getfield 27, 3) := by decide +kernel
theorem d_X_matchingBeginning_35 : decode b_X_matchingBeginning 35 = .ok (.iload_n 3, 1) := by decide +kernel
theorem d_X_matchingBeginning_36 : decode b_X_matchingBeginning 36 = .ok (.iaload, 1) := by decide +kernel
theorem d_X_matchingBeginning_37 : decode b_X_matchingBeginning 37 = .ok (.iconst (-1), 1) := by decide +kernel
theorem d_X_matchingBeginning_38 : decode b_X_matchingBeginning 38 = .ok (.if_icmp .eq 14, 3) := by decide +kernel
theorem d_X_matchingBeginning_41 : decode b_X_matchingBeginning 41 = .ok (.iload_n 1, 1) := by decide +kernel
theorem d_X_matchingBeginning_42 : decode b_X_matchingBeginning 42 = .ok (.ifCond .ne 8, 3) := by decide +kernel
theorem d_X_matchingBeginning_45 : decode b_X_matchingBeginning 45 = .ok (.iload_n 2, 1) := by decide +kernel
theorem d_X_matchingBeginning_46 : decode b_X_matchingBeginning 46 = .ok (.iconst (-1), 1) := by decide +kernel
theorem d_X_matchingBeginning_47 : decode b_X_matchingBeginning 47 = .ok (.if_icmp .ne 5, 3) := by decide +kernel
theorem d_X_matchingBeginning_50 : decode b_X_matchingBeginning 50 = .ok (.iload_n 3, 1) := by decide +kernel
theorem d_X_matchingBeginning_51 : decode b_X_matchingBeginning 51 = .ok (.istore_n 2, 1) := by decide +kernel
theorem d_X_matchingBeginning_52 : decode b_X_matchingBeginning 52 = .ok (.iinc 3 1, 3) := by decide +kernel
theorem d_X_matchingBeginning_55 : decode b_X_matchingBeginning 55 = .ok (.goto (-32), 3) := by decide +kernel
theorem d_X_matchingBeginning_58 : decode b_X_matchingBeginning 58 = .ok (.iload_n 2, 1) := by decide +kernel
theorem d_X_matchingBeginning_59 : decode b_X_matchingBeginning 59 = .ok (.ireturn, 1) := by decide +kernel
theorem d_X_matchingEnd_0 : decode b_X_matchingEnd 0 = .ok (.aload_n 0, 1) := by decide +kernel
theorem d_X_matchingEnd_1 : decode b_X_matchingEnd 1 = .ok (.invokevirtual 81, 3) := by decide +kernel
theorem d_X_matchingEnd_4 : decode b_X_matchingEnd 4 = .ok (.aload_n 0, 1) := by decide +kernel
theorem d_X_matchingEnd_5 : decode b_X_matchingEnd 5 = .ok (.iconst 0, 1) := by decide +kernel
theorem d_X_matchingEnd_6 : decode b_X_matchingEnd 6 = .ok (.aload_n 0, 1) := by decide +kernel
theorem d_X_matchingEnd_7 : decode b_X_matchingEnd 7 = .ok (.getfield 13, 3) := by decide +kernel
theorem d_X_matchingEnd_10 : decode b_X_matchingEnd 10 = .ok (.iload_n 1, 1) := by decide +kernel
theorem d_X_matchingEnd_11 : decode b_X_matchingEnd 11 = .ok (.invokevirtual 77, 3) := by decide +kernel
theorem d_X_matchingEnd_14 : decode b_X_matchingEnd 14 = .ok (.aload_n 0, 1) := by decide +kernel
theorem d_X_matchingEnd_15 : decode b_X_matchingEnd 15 = .ok (.getfield 27, 3) := by decide +kernel
theorem d_X_matchingEnd_18 : decode b_X_matchingEnd 18 = .ok (.aload_n 0, 1) := by decide +kernel
theorem d_X_matchingEnd_19 : decode b_X_matchingEnd 19 = .ok (.getfield 13, 3) := by decide +kernel
theorem d_X_matchingEnd_22 : decode b_X_matchingEnd 22 = .ok (.iaload, 1) := by decide +kernel
theorem d_X_matchingEnd_23 : decode b_X_matchingEnd 23 = .ok (.istore_n 2, 1) := by decide +kernel
theorem d_X_matchingEnd_24 : decode b_X_matchingEnd 24 = .ok (.iload_n 2, 1) := by decide +kernel
theorem d_X_matchingEnd_25 : decode b_X_matchingEnd 25 = .ok (.iconst (-1), 1) := by decide +kernel
theorem d_X_matchingEnd_26 : decode b_X_matchingEnd 26 = .ok (.if_icmp .ne 7, 3) := by decide +kernel
theorem d_X_matchingEnd_29 : decode b_X_matchingEnd 29 = .ok (.iconst (-1), 1) := by decide +kernel
theorem d_X_matchingEnd_30 : decode b_X_matchingEnd 30 = .ok (.goto 9, 3) := by decide +kernel
theorem d_X_matchingEnd_33 : decode b_X_matchingEnd 33 = .ok (.aload_n 0, 1) := by decide +kernel
theorem d_X_matchingEnd_34 : decode b_X_matchingEnd 34 = .ok (.getfield 13, 3) := by decide +kernel
theorem d_X_matchingEnd_37 : decode b_X_matchingEnd 37 = .ok (.iload_n 2, 1) := by decide +kernel
theorem d_X_matchingEnd_38 : decode b_X_matchingEnd 38 = .ok (.isub, 1) := by decide +kernel
theorem d_X_matchingEnd_39 : decode b_X_matchingEnd 39 = .ok (.ireturn, 1) := by decide +kernel
theorem d_X_startOnlyAt_0 : decode b_X_startOnlyAt 0 = .ok (.aload_n 0, 1) := by decide +kernel
theorem d_X_startOnlyAt_1 : decode b_X_startOnlyAt 1 = .ok (.getfield 27, 3) := by decide +kernel
theorem d_X_startOnlyAt_4 : decode b_X_startOnlyAt 4 = .ok (.iload_n 1, 1) := by decide +kernel
theorem d_X_startOnlyAt_5 : decode b_X_startOnlyAt 5 = .ok (.iload_n 1, 1) := by decide +kernel
theorem d_X_startOnlyAt_6 : decode b_X_startOnlyAt 6 = .ok (.iastore, 1) := by decide +kernel
theorem d_X_startOnlyAt_7 : decode b_X_startOnlyAt 7 = .ok (.iload_n 1, 1) := by decide +kernel
theorem d_X_startOnlyAt_8 : decode b_X_startOnlyAt 8 = .ok (.iconst 1, 1) := by decide +kernel
theorem d_X_startOnlyAt_9 : decode b_X_startOnlyAt 9 = .ok (.iadd, 1) := by decide +kernel
theorem d_X_startOnlyAt_10 : decode b_X_startOnlyAt 10 = .ok (.istore_n 3, 1) := by decide +kernel
theorem d_X_startOnlyAt_11 : decode b_X_startOnlyAt 11 = .ok (.iload_n 3, 1) := by decide +kernel
theorem d_X_startOnlyAt_12 : decode b_X_startOnlyAt 12 = .ok (.iload_n 2, 1) := by decide +kernel
theorem d_X_startOnlyAt_13 : decode b_X_startOnlyAt 13 = .ok (.if_icmp .gt 16, 3) := by decide +kernel
theorem d_X_startOnlyAt_16 : decode b_X_startOnlyAt 16 = .ok (.aload_n 0, 1) := by decide +kernel
theorem d_X_startOnlyAt_17 : decode b_X_startOnlyAt 17 = .ok (.getfield 27, 3) := by decide +kernel
theorem d_X_startOnlyAt_20 : decode b_X_startOnlyAt 20 = .ok (.iload_n 3, 1) := by decide +kernel
theorem d_X_startOnlyAt_21 : decode b_X_startOnlyAt 21 = .ok (.iconst (-1), 1) := by decide +kernel
theorem d_X_startOnlyAt_22 : decode b_X_startOnlyAt 22 = .ok (.iastore, 1) := by decide +kernel
theorem d_X_startOnlyAt_23 : decode b_X_startOnlyAt 23 = .ok (.iinc 3 1, 3) := by decide +kernel
theorem d_X_startOnlyAt_26 : decode b_X_startOnlyAt 26 = .ok (.goto (-15), 3) := by decide +kernel
theorem d_X_startOnlyAt_29 : decode b_X_startOnlyAt 29 = .ok (.return_, 1) := by decide +kernel
theorem d_X_startAnywhere_0 : decode b_X_startAnywhere 0 = .ok (.iconst 0, 1) := by decide +kernel
theorem d_X_startAnywhere_1 : decode b_X_startAnywhere 1 = .ok (.istore_n 1, 1) := by decide +kernel
theorem d_X_startAnywhere_2 : decode b_X_startAnywhere 2 = .ok (.iload_n 1, 1) := by decide +kernel
theorem d_X_startAnywhere_3 : decode b_X_startAnywhere 3 = .ok (.aload_n 0, 1) := by decide +kernel
theorem d_X_startAnywhere_4 : decode b_X_startAnywhere 4 = .ok (.getfield 13, 3) := by decide +kernel
theorem d_X_startAnywhere_7 : decode b_X_startAnywhere 7 = .ok (.if_icmp .gt 16, 3) := by decide +kernel
theorem d_X_startAnywhere_10 : decode b_X_startAnywhere 10 = .ok (.aload_n 0, 1) := by decide +kernel
theorem d_X_startAnywhere_11 : decode b_X_startAnywhere 11 = .ok (.getfield 27, 3) := by decide +kernel
theorem d_X_startAnywhere_14 : decode b_X_startAnywhere 14 = .ok (.iload_n 1, 1) := by decide +kernel
theorem d_X_startAnywhere_15 : decode b_X_startAnywhere 15 = .ok (.iload_n 1, 1) := by decide +kernel
theorem d_X_startAnywhere_16 : decode b_X_startAnywhere 16 = .ok (.iastore, 1) := by decide +kernel
theorem d_X_startAnywhere_17 : decode b_X_startAnywhere 17 = .ok (.iinc 1 1, 3) := by decide +kernel
theorem d_X_startAnywhere_20 : decode b_X_startAnywhere 20 = .ok (.goto (-18), 3) := by decide +kernel
theorem d_X_startAnywhere_23 : decode b_X_startAnywhere 23 = .ok (.return_, 1) := by decide +kernel
theorem d_X_readPattern_0 : decode b_X_readPattern 0 = .ok (.iconst 0, 1) := by decide +kernel
theorem d_X_readPattern_1 : decode b_X_readPattern 1 = .ok (.istore 4, 2) := by decide +kernel
theorem d_X_readPattern_3 : decode b_X_readPattern 3 = .ok (.iload 4, 2) := by decide +kernel
theorem d_X_readPattern_5 : decode b_X_readPattern 5 = .ok (.aload_n 0, 1) := by decide +kernel
theorem d_X_readPattern_6 : decode b_X_readPattern 6 = .ok (.getfield 24, 3) := by decide +kernel
theorem d_X_readPattern_9 : decode b_X_readPattern 9 = .ok (.if_icmp .ge 56, 3) := by decide +kernel
theorem d_X_readPattern_12 : decode b_X_readPattern 12 = .ok (.aload_n 0, 1) := by decide +kernel
theorem d_X_readPattern_13 : decode b_X_readPattern 13 = .ok (.iload 4, 2) := by decide +kernel
theorem d_X_readPattern_15 : decode b_X_readPattern 15 = .ok (.invokevirtual 69, 3) := by decide +kernel
theorem d_X_readPattern_18 : decode b_X_readPattern 18 = .ok (.istore 5, 2) := by decide +kernel
theorem d_X_readPattern_20 : decode b_X_readPattern 20 = .ok (.aload_n 0, 1) := by decide +kernel
theorem d_X_readPattern_21 : decode b_X_readPattern 21 = .ok (.iload 4, 2) := by decide +kernel
theorem d_X_readPattern_23 : decode b_X_readPattern 23 = .ok (.bipush 42, 2) := by decide +kernel
theorem d_X_readPattern_25 : decode b_X_readPattern 25 = .ok (.invokevirtual 56, 3) := by decide +kernel
theorem d_X_readPattern_28 : decode b_X_readPattern 28 = .ok (.ifCond .eq 13, 3) := by decide +kernel
theorem d_X_readPattern_31 : decode b_X_readPattern 31 = .ok (.aload_n 0, 1) := by decide +kernel
theorem d_X_readPattern_32 : decode b_X_readPattern 32 = .ok (.iload_n 1, 1) := by decide +kernel
theorem d_X_readPattern_33 : decode b_X_readPattern 33 = .ok (.iload_n 2, 1) := by decide +kernel
theorem d_X_readPattern_34 : decode b_X_readPattern 34 = .ok (.iload_n 3, 1) := by decide +kernel
theorem d_X_readPattern_35 : decode b_X_readPattern 35 = .ok (.invokevirtual 84, 3) := by decide +kernel
theorem d_X_readPattern_38 : decode b_X_readPattern 38 = .ok (.goto 13, 3) := by decide +kernel
theorem d_X_readPattern_41 : decode b_X_readPattern 41 = .ok (.aload_n 0, 1) := by decide +kernel
theorem d_X_readPattern_42 : decode b_X_readPattern 42 = .ok (.iload_n 1, 1) := by decide +kernel
theorem d_X_readPattern_43 : decode b_X_readPattern 43 = .ok (.iload_n 2, 1) := by decide +kernel
theorem d_X_readPattern_44 : decode b_X_readPattern 44 = .ok (.iload 4, 2) := by decide +kernel
theorem d_X_readPattern_46 : decode b_X_readPattern 46 = .ok (.iload 5, 2) := by decide +kernel
theorem d_X_readPattern_48 : decode b_X_readPattern 48 = .ok (.invokevirtual 87, 3) := by decide +kernel
theorem d_X_readPattern_51 : decode b_X_readPattern 51 = .ok (.iload 4, 2) := by decide +kernel
theorem d_X_readPattern_53 : decode b_X_readPattern 53 = .ok (.iload 5, 2) := by decide +kernel
theorem d_X_readPattern_55 : decode b_X_readPattern 55 = .ok (.invokestatic 91, 3) := by decide +kernel
theorem d_X_readPattern_58 : decode b_X_readPattern 58 = .ok (.iconst 1, 1) := by decide +kernel
theorem d_X_readPattern_59 : decode b_X_readPattern 59 = .ok (.iadd, 1) := by decide +kernel
theorem d_X_readPattern_60 : decode b_X_readPattern 60 = .ok (.istore 4, 2) := by decide +kernel
theorem d_X_readPattern_62 : decode b_X_readPattern 62 = .ok (.goto (-59), 3) := by decide +kernel
theorem d_X_readPattern_65 : decode b_X_readPattern 65 = .ok (.return_, 1) := by decide +kernel
theorem d_X_takeAnyRow_0 : decode b_X_takeAnyRow 0 = .ok (.iload_n 1, 1) := by decide +kernel
theorem d_X_takeAnyRow_1 : decode b_X_takeAnyRow 1 = .ok (.iconst 1, 1) := by decide +kernel
theorem d_X_takeAnyRow_2 : decode b_X_takeAnyRow 2 = .ok (.iadd, 1) := by decide +kernel
theorem d_X_takeAnyRow_3 : decode b_X_takeAnyRow 3 = .ok (.istore 4, 2) := by decide +kernel
theorem d_X_takeAnyRow_5 : decode b_X_takeAnyRow 5 = .ok (.iload 4, 2) := by decide +kernel
theorem d_X_takeAnyRow_7 : decode b_X_takeAnyRow 7 = .ok (.iload_n 2, 1) := by decide +kernel
theorem d_X_takeAnyRow_8 : decode b_X_takeAnyRow 8 = .ok (.if_icmp .gt 36, 3) := by decide +kernel
theorem d_X_takeAnyRow_11 : decode b_X_takeAnyRow 11 = .ok (.aload_n 0, 1) := by decide +kernel
end
section
theorem d_X_takeAnyRow_12 : decode b_X_takeAnyRow 12 = .ok (.getfield 27, 3) := by decide +kernel
theorem d_X_takeAnyRow_15 : decode b_X_takeAnyRow 15 = .ok (.iload 4, 2) := by decide +kernel
theorem d_X_takeAnyRow_17 : decode b_X_takeAnyRow 17 = .ok (.aload_n 0, 1) := by decide +kernel
theorem d_X_takeAnyRow_18 : decode b_X_takeAnyRow 18 = .ok (.getfield 27, 3) := by decide +kernel
theorem d_X_takeAnyRow_21 : decode b_X_takeAnyRow 21 = .ok (.iload 4, 2) := by decide +kernel
theorem d_X_takeAnyRow_23 : decode b_X_takeAnyRow 23 = .ok (.iconst 1, 1) := by decide +kernel
theorem d_X_takeAnyRow_24 : decode b_X_takeAnyRow 24 = .ok (.isub, 1) := by decide +kernel
theorem d_X_takeAnyRow_25 : decode b_X_takeAnyRow 25 = .ok (.iaload, 1) := by decide +kernel
theorem d_X_takeAnyRow_26 : decode b_X_takeAnyRow 26 = .ok (.aload_n 0, 1) := by decide +kernel
theorem d_X_takeAnyRow_27 : decode b_X_takeAnyRow 27 = .ok (.getfield 27, 3) := by decide +kernel
theorem d_X_takeAnyRow_30 : decode b_X_takeAnyRow 30 = .ok (.iload 4, 2) := by decide +kernel
theorem d_X_takeAnyRow_32 : decode b_X_takeAnyRow 32 = .ok (.iaload, 1) := by decide +kernel
theorem d_X_takeAnyRow_33 : decode b_X_takeAnyRow 33 = .ok (.iload_n 3, 1) := by decide +kernel
theorem d_X_takeAnyRow_34 : decode b_X_takeAnyRow 34 = .ok (.invokestatic 97, 3) := by decide +kernel
theorem d_X_takeAnyRow_37 : decode b_X_takeAnyRow 37 = .ok (.iastore, 1) := by decide +kernel
theorem d_X_takeAnyRow_38 : decode b_X_takeAnyRow 38 = .ok (.iinc 4 1, 3) := by decide +kernel
theorem d_X_takeAnyRow_41 : decode b_X_takeAnyRow 41 = .ok (.goto (-36), 3) := by decide +kernel
theorem d_X_takeAnyRow_44 : decode b_X_takeAnyRow 44 = .ok (.return_, 1) := by decide +kernel
theorem d_X_better_0 : decode b_X_better 0 = .ok (.iload_n 0, 1) := by decide +kernel
theorem d_X_better_1 : decode b_X_better 1 = .ok (.iconst (-1), 1) := by decide +kernel
theorem d_X_better_2 : decode b_X_better 2 = .ok (.if_icmp .eq 8, 3) := by decide +kernel
theorem d_X_better_5 : decode b_X_better 5 = .ok (.iload_n 1, 1) := by decide +kernel
theorem d_X_better_6 : decode b_X_better 6 = .ok (.iconst (-1), 1) := by decide +kernel
theorem d_X_better_7 : decode b_X_better 7 = .ok (.if_icmp .ne 14, 3) := by decide +kernel
theorem d_X_better_10 : decode b_X_better 10 = .ok (.iload_n 0, 1) := by decide +kernel
theorem d_X_better_11 : decode b_X_better 11 = .ok (.iconst (-1), 1) := by decide +kernel
theorem d_X_better_12 : decode b_X_better 12 = .ok (.if_icmp .ne 7, 3) := by decide +kernel
theorem d_X_better_15 : decode b_X_better 15 = .ok (.iload_n 1, 1) := by decide +kernel
theorem d_X_better_16 : decode b_X_better 16 = .ok (.goto 4, 3) := by decide +kernel
theorem d_X_better_19 : decode b_X_better 19 = .ok (.iload_n 0, 1) := by decide +kernel
theorem d_X_better_20 : decode b_X_better 20 = .ok (.ireturn, 1) := by decide +kernel
theorem d_X_better_21 : decode b_X_better 21 = .ok (.iload_n 2, 1) := by decide +kernel
theorem d_X_better_22 : decode b_X_better 22 = .ok (.ifCond .eq 11, 3) := by decide +kernel
theorem d_X_better_25 : decode b_X_better 25 = .ok (.iload_n 0, 1) := by decide +kernel
theorem d_X_better_26 : decode b_X_better 26 = .ok (.iload_n 1, 1) := by decide +kernel
theorem d_X_better_27 : decode b_X_better 27 = .ok (.invokestatic 101, 3) := by decide +kernel
theorem d_X_better_30 : decode b_X_better 30 = .ok (.goto 8, 3) := by decide +kernel
theorem d_X_better_33 : decode b_X_better 33 = .ok (.iload_n 0, 1) := by decide +kernel
theorem d_X_better_34 : decode b_X_better 34 = .ok (.iload_n 1, 1) := by decide +kernel
theorem d_X_better_35 : decode b_X_better 35 = .ok (.invokestatic 91, 3) := by decide +kernel
theorem d_X_better_38 : decode b_X_better 38 = .ok (.ireturn, 1) := by decide +kernel
theorem d_X_takeOne_0 : decode b_X_takeOne 0 = .ok (.iload_n 2, 1) := by decide +kernel
theorem d_X_takeOne_1 : decode b_X_takeOne 1 = .ok (.istore 5, 2) := by decide +kernel
theorem d_X_takeOne_3 : decode b_X_takeOne 3 = .ok (.iload 5, 2) := by decide +kernel
theorem d_X_takeOne_5 : decode b_X_takeOne 5 = .ok (.iload_n 1, 1) := by decide +kernel
theorem d_X_takeOne_6 : decode b_X_takeOne 6 = .ok (.if_icmp .le 73, 3) := by decide +kernel
theorem d_X_takeOne_9 : decode b_X_takeOne 9 = .ok (.aload_n 0, 1) := by decide +kernel
theorem d_X_takeOne_10 : decode b_X_takeOne 10 = .ok (.getfield 27, 3) := by decide +kernel
theorem d_X_takeOne_13 : decode b_X_takeOne 13 = .ok (.iload 5, 2) := by decide +kernel
theorem d_X_takeOne_15 : decode b_X_takeOne 15 = .ok (.iconst 1, 1) := by decide +kernel
theorem d_X_takeOne_16 : decode b_X_takeOne 16 = .ok (.isub, 1) := by decide +kernel
theorem d_X_takeOne_17 : decode b_X_takeOne 17 = .ok (.iaload, 1) := by decide +kernel
theorem d_X_takeOne_18 : decode b_X_takeOne 18 = .ok (.iconst (-1), 1) := by decide +kernel
theorem d_X_takeOne_19 : decode b_X_takeOne 19 = .ok (.if_icmp .eq 26, 3) := by decide +kernel
theorem d_X_takeOne_22 : decode b_X_takeOne 22 = .ok (.aload_n 0, 1) := by decide +kernel
theorem d_X_takeOne_23 : decode b_X_takeOne 23 = .ok (.aload_n 0, 1) := by decide +kernel
theorem d_X_takeOne_24 : decode b_X_takeOne 24 = .ok (.getfield 9, 3) := by decide +kernel
theorem d_X_takeOne_27 : decode b_X_takeOne 27 = .ok (.iload 5, 2) := by decide +kernel
theorem d_X_takeOne_29 : decode b_X_takeOne 29 = .ok (.iconst 1, 1) := by decide +kernel
theorem d_X_takeOne_30 : decode b_X_takeOne 30 = .ok (.isub, 1) := by decide +kernel
theorem d_X_takeOne_31 : decode b_X_takeOne 31 = .ok (.iaload, 1) := by decide +kernel
theorem d_X_takeOne_32 : decode b_X_takeOne 32 = .ok (.iload_n 3, 1) := by decide +kernel
theorem d_X_takeOne_33 : decode b_X_takeOne 33 = .ok (.iload 4, 2) := by decide +kernel
theorem d_X_takeOne_35 : decode b_X_takeOne 35 = .ok (.invokevirtual 104, 3) := by decide +kernel
theorem d_X_takeOne_38 : decode b_X_takeOne 38 = .ok (.ifCond .eq 7, 3) := by decide +kernel
theorem d_X_takeOne_41 : decode b_X_takeOne 41 = .ok (.iconst 1, 1) := by decide +kernel
theorem d_X_takeOne_42 : decode b_X_takeOne 42 = .ok (.goto 4, 3) := by decide +kernel
theorem d_X_takeOne_45 : decode b_X_takeOne 45 = .ok (.iconst 0, 1) := by decide +kernel
theorem d_X_takeOne_46 : decode b_X_takeOne 46 = .ok (.istore 6, 2) := by decide +kernel
theorem d_X_takeOne_48 : decode b_X_takeOne 48 = .ok (.aload_n 0, 1) := by decide +kernel
theorem d_X_takeOne_49 : decode b_X_takeOne 49 = .ok (.getfield 27, 3) := by decide +kernel
theorem d_X_takeOne_52 : decode b_X_takeOne 52 = .ok (.iload 5, 2) := by decide +kernel
theorem d_X_takeOne_54 : decode b_X_takeOne 54 = .ok (.iload 6, 2) := by decide +kernel
theorem d_X_takeOne_56 : decode b_X_takeOne 56 = .ok (.ifCond .eq 15, 3) := by decide +kernel
theorem d_X_takeOne_59 : decode b_X_takeOne 59 = .ok (.aload_n 0, 1) := by decide +kernel
theorem d_X_takeOne_60 : decode b_X_takeOne 60 = .ok (.getfield 27, 3) := by decide +kernel
theorem d_X_takeOne_63 : decode b_X_takeOne 63 = .ok (.iload 5, 2) := by decide +kernel
theorem d_X_takeOne_65 : decode b_X_takeOne 65 = .ok (.iconst 1, 1) := by decide +kernel
theorem d_X_takeOne_66 : decode b_X_takeOne 66 = .ok (.isub, 1) := by decide +kernel
theorem d_X_takeOne_67 : decode b_X_takeOne 67 = .ok (.iaload, 1) := by decide +kernel
theorem d_X_takeOne_68 : decode b_X_takeOne 68 = .ok (.goto 4, 3) := by decide +kernel
theorem d_X_takeOne_71 : decode b_X_takeOne 71 = .ok (.iconst (-1), 1) := by decide +kernel
theorem d_X_takeOne_72 : decode b_X_takeOne 72 = .ok (.iastore, 1) := by decide +kernel
theorem d_X_takeOne_73 : decode b_X_takeOne 73 = .ok (.iinc 5 (-1), 3) := by decide +kernel
theorem d_X_takeOne_76 : decode b_X_takeOne 76 = .ok (.goto (-73), 3) := by decide +kernel
theorem d_X_takeOne_79 : decode b_X_takeOne 79 = .ok (.aload_n 0, 1) := by decide +kernel
theorem d_X_takeOne_80 : decode b_X_takeOne 80 = .ok (.getfield 27, 3) := by decide +kernel
theorem d_X_takeOne_83 : decode b_X_takeOne 83 = .ok (.iload_n 1, 1) := by decide +kernel
theorem d_X_takeOne_84 : decode b_X_takeOne 84 = .ok (.iconst (-1), 1) := by decide +kernel
theorem d_X_takeOne_85 : decode b_X_takeOne 85 = .ok (.iastore, 1) := by decide +kernel
theorem d_X_takeOne_86 : decode b_X_takeOne 86 = .ok (.return_, 1) := by decide +kernel
theorem d_X_fits_0 : decode b_X_fits 0 = .ok (.iload_n 3, 1) := by decide +kernel
theorem d_X_fits_1 : decode b_X_fits 1 = .ok (.iconst (-1), 1) := by decide +kernel
theorem d_X_fits_2 : decode b_X_fits 2 = .ok (.if_icmp .eq 36, 3) := by decide +kernel
theorem d_X_fits_5 : decode b_X_fits 5 = .ok (.aload_n 0, 1) := by decide +kernel
theorem d_X_fits_6 : decode b_X_fits 6 = .ok (.iload_n 2, 1) := by decide +kernel
theorem d_X_fits_7 : decode b_X_fits 7 = .ok (.iconst 1, 1) := by decide +kernel
theorem d_X_fits_8 : decode b_X_fits 8 = .ok (.iadd, 1) := by decide +kernel
theorem d_X_fits_9 : decode b_X_fits 9 = .ok (.bipush 33, 2) := by decide +kernel
theorem d_X_fits_11 : decode b_X_fits 11 = .ok (.invokevirtual 56, 3) := by decide +kernel
theorem d_X_fits_14 : decode b_X_fits 14 = .ok (.istore 4, 2) := by decide +kernel
theorem d_X_fits_16 : decode b_X_fits 16 = .ok (.aload_n 0, 1) := by decide +kernel
theorem d_X_fits_17 : decode b_X_fits 17 = .ok (.iload_n 1, 1) := by decide +kernel
theorem d_X_fits_18 : decode b_X_fits 18 = .ok (.aload_n 0, 1) := by decide +kernel
theorem d_X_fits_19 : decode b_X_fits 19 = .ok (.iload_n 2, 1) := by decide +kernel
theorem d_X_fits_20 : decode b_X_fits 20 = .ok (.invokevirtual 107, 3) := by decide +kernel
theorem d_X_fits_23 : decode b_X_fits 23 = .ok (.iload_n 3, 1) := by decide +kernel
theorem d_X_fits_24 : decode b_X_fits 24 = .ok (.invokevirtual 110, 3) := by decide +kernel
theorem d_X_fits_27 : decode b_X_fits 27 = .ok (.iload 4, 2) := by decide +kernel
theorem d_X_fits_29 : decode b_X_fits 29 = .ok (.if_icmp .eq 7, 3) := by decide +kernel
theorem d_X_fits_32 : decode b_X_fits 32 = .ok (.iconst 1, 1) := by decide +kernel
theorem d_X_fits_33 : decode b_X_fits 33 = .ok (.goto 4, 3) := by decide +kernel
theorem d_X_fits_36 : decode b_X_fits 36 = .ok (.iconst 0, 1) := by decide +kernel
theorem d_X_fits_37 : decode b_X_fits 37 = .ok (.ireturn, 1) := by decide +kernel
theorem d_X_fits_38 : decode b_X_fits 38 = .ok (.aload_n 0, 1) := by decide +kernel
theorem d_X_fits_39 : decode b_X_fits 39 = .ok (.iload_n 2, 1) := by decide +kernel
theorem d_X_fits_40 : decode b_X_fits 40 = .ok (.bipush 63, 2) := by decide +kernel
theorem d_X_fits_42 : decode b_X_fits 42 = .ok (.invokevirtual 56, 3) := by decide +kernel
theorem d_X_fits_45 : decode b_X_fits 45 = .ok (.ifCond .ne 13, 3) := by decide +kernel
theorem d_X_fits_48 : decode b_X_fits 48 = .ok (.aload_n 0, 1) := by decide +kernel
theorem d_X_fits_49 : decode b_X_fits 49 = .ok (.getfield 17, 3) := by decide +kernel
theorem d_X_fits_52 : decode b_X_fits 52 = .ok (.iload_n 2, 1) := by decide +kernel
theorem d_X_fits_53 : decode b_X_fits 53 = .ok (.iaload, 1) := by decide +kernel
theorem d_X_fits_54 : decode b_X_fits 54 = .ok (.iload_n 1, 1) := by decide +kernel
theorem d_X_fits_55 : decode b_X_fits 55 = .ok (.if_icmp .ne 7, 3) := by decide +kernel
theorem d_X_fits_58 : decode b_X_fits 58 = .ok (.iconst 1, 1) := by decide +kernel
theorem d_X_fits_59 : decode b_X_fits 59 = .ok (.goto 4, 3) := by decide +kernel
theorem d_X_fits_62 : decode b_X_fits 62 = .ok (.iconst 0, 1) := by decide +kernel
theorem d_X_fits_63 : decode b_X_fits 63 = .ok (.ireturn, 1) := by decide +kernel
theorem d_X_closeOf_0 : decode b_X_closeOf 0 = .ok (.aload_n 0, 1) := by decide +kernel
theorem d_X_closeOf_1 : decode b_X_closeOf 1 = .ok (.iload_n 1, 1) := by decide +kernel
theorem d_X_closeOf_2 : decode b_X_closeOf 2 = .ok (.bipush 91, 2) := by decide +kernel
theorem d_X_closeOf_4 : decode b_X_closeOf 4 = .ok (.invokevirtual 56, 3) := by decide +kernel
theorem d_X_closeOf_7 : decode b_X_closeOf 7 = .ok (.ifCond .ne 5, 3) := by decide +kernel
theorem d_X_closeOf_10 : decode b_X_closeOf 10 = .ok (.iconst (-1), 1) := by decide +kernel
theorem d_X_closeOf_11 : decode b_X_closeOf 11 = .ok (.ireturn, 1) := by decide +kernel
theorem d_X_closeOf_12 : decode b_X_closeOf 12 = .ok (.aload_n 0, 1) := by decide +kernel
theorem d_X_closeOf_13 : decode b_X_closeOf 13 = .ok (.iload_n 1, 1) := by decide +kernel
theorem d_X_closeOf_14 : decode b_X_closeOf 14 = .ok (.invokevirtual 107, 3) := by decide +kernel
theorem d_X_closeOf_17 : decode b_X_closeOf 17 = .ok (.iconst 1, 1) := by decide +kernel
theorem d_X_closeOf_18 : decode b_X_closeOf 18 = .ok (.iadd, 1) := by decide +kernel
theorem d_X_closeOf_19 : decode b_X_closeOf 19 = .ok (.istore_n 2, 1) := by decide +kernel
theorem d_X_closeOf_20 : decode b_X_closeOf 20 = .ok (.iload_n 2, 1) := by decide +kernel
theorem d_X_closeOf_21 : decode b_X_closeOf 21 = .ok (.aload_n 0, 1) := by decide +kernel
theorem d_X_closeOf_22 : decode b_X_closeOf 22 = .ok (.getfield 24, 3) := by decide +kernel
theorem d_X_closeOf_25 : decode b_X_closeOf 25 = .ok (.if_icmp .ge 21, 3) := by decide +kernel
theorem d_X_closeOf_28 : decode b_X_closeOf 28 = .ok (.aload_n 0, 1) := by decide +kernel
theorem d_X_closeOf_29 : decode b_X_closeOf 29 = .ok (.iload_n 2, 1) := by decide +kernel
theorem d_X_closeOf_30 : decode b_X_closeOf 30 = .ok (.bipush 93, 2) := by decide +kernel
theorem d_X_closeOf_32 : decode b_X_closeOf 32 = .ok (.invokevirtual 56, 3) := by decide +kernel
theorem d_X_closeOf_35 : decode b_X_closeOf 35 = .ok (.ifCond .eq 5, 3) := by decide +kernel
theorem d_X_closeOf_38 : decode b_X_closeOf 38 = .ok (.iload_n 2, 1) := by decide +kernel
theorem d_X_closeOf_39 : decode b_X_closeOf 39 = .ok (.ireturn, 1) := by decide +kernel
theorem d_X_closeOf_40 : decode b_X_closeOf 40 = .ok (.iinc 2 1, 3) := by decide +kernel
theorem d_X_closeOf_43 : decode b_X_closeOf 43 = .ok (.goto (-23), 3) := by decide +kernel
theorem d_X_closeOf_46 : decode b_X_closeOf 46 = .ok (.iconst (-1), 1) := by decide +kernel
theorem d_X_closeOf_47 : decode b_X_closeOf 47 = .ok (.ireturn, 1) := by decide +kernel
theorem d_X_firstMember_0 : decode b_X_firstMember 0 = .ok (.aload_n 0, 1) := by decide +kernel
theorem d_X_firstMember_1 : decode b_X_firstMember 1 = .ok (.iload_n 1, 1) := by decide +kernel
theorem d_X_firstMember_2 : decode b_X_firstMember 2 = .ok (.iconst 1, 1) := by decide +kernel
theorem d_X_firstMember_3 : decode b_X_firstMember 3 = .ok (.iadd, 1) := by decide +kernel
theorem d_X_firstMember_4 : decode b_X_firstMember 4 = .ok (.bipush 33, 2) := by decide +kernel
theorem d_X_firstMember_6 : decode b_X_firstMember 6 = .ok (.invokevirtual 56, 3) := by decide +kernel
theorem d_X_firstMember_9 : decode b_X_firstMember 9 = .ok (.ifCond .eq 9, 3) := by decide +kernel
theorem d_X_firstMember_12 : decode b_X_firstMember 12 = .ok (.iload_n 1, 1) := by decide +kernel
theorem d_X_firstMember_13 : decode b_X_firstMember 13 = .ok (.iconst 2, 1) := by decide +kernel
theorem d_X_firstMember_14 : decode b_X_firstMember 14 = .ok (.iadd, 1) := by decide +kernel
theorem d_X_firstMember_15 : decode b_X_firstMember 15 = .ok (.goto 6, 3) := by decide +kernel
theorem d_X_firstMember_18 : decode b_X_firstMember 18 = .ok (.iload_n 1, 1) := by decide +kernel
theorem d_X_firstMember_19 : decode b_X_firstMember 19 = .ok (.iconst 1, 1) := by decide +kernel
theorem d_X_firstMember_20 : decode b_X_firstMember 20 = .ok (.iadd, 1) := by decide +kernel
theorem d_X_firstMember_21 : decode b_X_firstMember 21 = .ok (.ireturn, 1) := by decide +kernel
theorem d_X_isMember_0 : decode b_X_isMember 0 = .ok (.iload_n 2, 1) := by decide +kernel
theorem d_X_isMember_1 : decode b_X_isMember 1 = .ok (.istore 4, 2) := by decide +kernel
theorem d_X_isMember_3 : decode b_X_isMember 3 = .ok (.iload 4, 2) := by decide +kernel
theorem d_X_isMember_5 : decode b_X_isMember 5 = .ok (.iload_n 3, 1) := by decide +kernel
theorem d_X_isMember_6 : decode b_X_isMember 6 = .ok (.if_icmp .ge 80, 3) := by decide +kernel
theorem d_X_isMember_9 : decode b_X_isMember 9 = .ok (.iload 4, 2) := by decide +kernel
theorem d_X_isMember_11 : decode b_X_isMember 11 = .ok (.iconst 2, 1) := by decide +kernel
theorem d_X_isMember_12 : decode b_X_isMember 12 = .ok (.iadd, 1) := by decide +kernel
theorem d_X_isMember_13 : decode b_X_isMember 13 = .ok (.iload_n 3, 1) := by decide +kernel
theorem d_X_isMember_14 : decode b_X_isMember 14 = .ok (.if_icmp .ge 20, 3) := by decide +kernel
theorem d_X_isMember_17 : decode b_X_isMember 17 = .ok (.aload_n 0, 1) := by decide +kernel
theorem d_X_isMember_18 : decode b_X_isMember 18 = .ok (.iload 4, 2) := by decide +kernel
theorem d_X_isMember_20 : decode b_X_isMember 20 = .ok (.iconst 1, 1) := by decide +kernel
theorem d_X_isMember_21 : decode b_X_isMember 21 = .ok (.iadd, 1) := by decide +kernel
theorem d_X_isMember_22 : decode b_X_isMember 22 = .ok (.bipush 45, 2) := by decide +kernel
theorem d_X_isMember_24 : decode b_X_isMember 24 = .ok (.invokevirtual 56, 3) := by decide +kernel
theorem d_X_isMember_27 : decode b_X_isMember 27 = .ok (.ifCond .eq 7, 3) := by decide +kernel
theorem d_X_isMember_30 : decode b_X_isMember 30 = .ok (.iconst 1, 1) := by decide +kernel
theorem d_X_isMember_31 : decode b_X_isMember 31 = .ok (.goto 4, 3) := by decide +kernel
theorem d_X_isMember_34 : decode b_X_isMember 34 = .ok (.iconst 0, 1) := by decide +kernel
theorem d_X_isMember_35 : decode b_X_isMember 35 = .ok (.istore 5, 2) := by decide +kernel
theorem d_X_isMember_37 : decode b_X_isMember 37 = .ok (.iload 5, 2) := by decide +kernel
theorem d_X_isMember_39 : decode b_X_isMember 39 = .ok (.ifCond .eq 10, 3) := by decide +kernel
theorem d_X_isMember_42 : decode b_X_isMember 42 = .ok (.iload 4, 2) := by decide +kernel
theorem d_X_isMember_44 : decode b_X_isMember 44 = .ok (.iconst 2, 1) := by decide +kernel
theorem d_X_isMember_45 : decode b_X_isMember 45 = .ok (.iadd, 1) := by decide +kernel
theorem d_X_isMember_46 : decode b_X_isMember 46 = .ok (.goto 5, 3) := by decide +kernel
theorem d_X_isMember_49 : decode b_X_isMember 49 = .ok (.iload 4, 2) := by decide +kernel
theorem d_X_isMember_51 : decode b_X_isMember 51 = .ok (.istore 6, 2) := by decide +kernel
theorem d_X_isMember_53 : decode b_X_isMember 53 = .ok (.iload_n 1, 1) := by decide +kernel
theorem d_X_isMember_54 : decode b_X_isMember 54 = .ok (.aload_n 0, 1) := by decide +kernel
theorem d_X_isMember_55 : decode b_X_isMember 55 = .ok (.getfield 17, 3) := by decide +kernel
theorem d_X_isMember_58 : decode b_X_isMember 58 = .ok (.iload 4, 2) := by decide +kernel
theorem d_X_isMember_60 : decode b_X_isMember 60 = .ok (.iaload, 1) := by decide +kernel
theorem d_X_isMember_61 : decode b_X_isMember 61 = .ok (.if_icmp .lt 16, 3) := by decide +kernel
theorem d_X_isMember_64 : decode b_X_isMember 64 = .ok (.iload_n 1, 1) := by decide +kernel
theorem d_X_isMember_65 : decode b_X_isMember 65 = .ok (.aload_n 0, 1) := by decide +kernel
theorem d_X_isMember_66 : decode b_X_isMember 66 = .ok (.getfield 17, 3) := by decide +kernel
theorem d_X_isMember_69 : decode b_X_isMember 69 = .ok (.iload 6, 2) := by decide +kernel
theorem d_X_isMember_71 : decode b_X_isMember 71 = .ok (.iaload, 1) := by decide +kernel
theorem d_X_isMember_72 : decode b_X_isMember 72 = .ok (.if_icmp .gt 5, 3) := by decide +kernel
theorem d_X_isMember_75 : decode b_X_isMember 75 = .ok (.iconst 1, 1) := by decide +kernel
theorem d_X_isMember_76 : decode b_X_isMember 76 = .ok (.ireturn, 1) := by decide +kernel
theorem d_X_isMember_77 : decode b_X_isMember 77 = .ok (.iload 6, 2) := by decide +kernel
theorem d_X_isMember_79 : decode b_X_isMember 79 = .ok (.iconst 1, 1) := by decide +kernel
theorem d_X_isMember_80 : decode b_X_isMember 80 = .ok (.iadd, 1) := by decide +kernel
theorem d_X_isMember_81 : decode b_X_isMember 81 = .ok (.istore 4, 2) := by decide +kernel
theorem d_X_isMember_83 : decode b_X_isMember 83 = .ok (.goto (-80), 3) := by decide +kernel
theorem d_X_isMember_86 : decode b_X_isMember 86 = .ok (.iconst 0, 1) := by decide +kernel
theorem d_X_isMember_87 : decode b_X_isMember 87 = .ok (.ireturn, 1) := by decide +kernel
theorem d_X_isUnquoted_0 : decode b_X_isUnquoted 0 = .ok (.iload_n 1, 1) := by decide +kernel
theorem d_X_isUnquoted_1 : decode b_X_isUnquoted 1 = .ok (.ifCond .lt 34, 3) := by decide +kernel
theorem d_X_isUnquoted_4 : decode b_X_isUnquoted 4 = .ok (.iload_n 1, 1) := by decide +kernel
theorem d_X_isUnquoted_5 : decode b_X_isUnquoted 5 = .ok (.aload_n 0, 1) := by decide +kernel
theorem d_X_isUnquoted_6 : decode b_X_isUnquoted 6 = .ok (.getfield 24, 3) := by decide +kernel
theorem d_X_isUnquoted_9 : decode b_X_isUnquoted 9 = .ok (.if_icmp .ge 26, 3) := by decide +kernel
theorem d_X_isUnquoted_12 : decode b_X_isUnquoted 12 = .ok (.aload_n 0, 1) := by decide +kernel
theorem d_X_isUnquoted_13 : decode b_X_isUnquoted 13 = .ok (.getfield 20, 3) := by decide +kernel
theorem d_X_isUnquoted_16 : decode b_X_isUnquoted 16 = .ok (.iload_n 1, 1) := by decide +kernel
theorem d_X_isUnquoted_17 : decode b_X_isUnquoted 17 = .ok (.baload, 1) := by decide +kernel
theorem d_X_isUnquoted_18 : decode b_X_isUnquoted 18 = .ok (.ifCond .ne 17, 3) := by decide +kernel
theorem d_X_isUnquoted_21 : decode b_X_isUnquoted 21 = .ok (.aload_n 0, 1) := by decide +kernel
theorem d_X_isUnquoted_22 : decode b_X_isUnquoted 22 = .ok (.getfield 17, 3) := by decide +kernel
theorem d_X_isUnquoted_25 : decode b_X_isUnquoted 25 = .ok (.iload_n 1, 1) := by decide +kernel
theorem d_X_isUnquoted_26 : decode b_X_isUnquoted 26 = .ok (.iaload, 1) := by decide +kernel
theorem d_X_isUnquoted_27 : decode b_X_isUnquoted 27 = .ok (.iload_n 2, 1) := by decide +kernel
theorem d_X_isUnquoted_28 : decode b_X_isUnquoted 28 = .ok (.if_icmp .ne 7, 3) := by decide +kernel
theorem d_X_isUnquoted_31 : decode b_X_isUnquoted 31 = .ok (.iconst 1, 1) := by decide +kernel
theorem d_X_isUnquoted_32 : decode b_X_isUnquoted 32 = .ok (.goto 4, 3) := by decide +kernel
theorem d_X_isUnquoted_35 : decode b_X_isUnquoted 35 = .ok (.iconst 0, 1) := by decide +kernel
theorem d_X_isUnquoted_36 : decode b_X_isUnquoted 36 = .ok (.ireturn, 1) := by decide +kernel
theorem d_M_init_0 : decode b_M_init 0 = .ok (.aload_n 0, 1) := by decide +kernel
theorem d_M_init_1 : decode b_M_init 1 = .ok (.invokespecial 1, 3) := by decide +kernel
theorem d_M_init_4 : decode b_M_init 4 = .ok (.aload_n 0, 1) := by decide +kernel
theorem d_M_init_5 : decode b_M_init 5 = .ok (.sipush 400, 3) := by decide +kernel
theorem d_M_init_8 : decode b_M_init 8 = .ok (.newarray .int, 2) := by decide +kernel
theorem d_M_init_10 : decode b_M_init 10 = .ok (.putfield 7, 3) := by decide +kernel
theorem d_M_init_13 : decode b_M_init 13 = .ok (.aload_n 0, 1) := by decide +kernel
theorem d_M_init_14 : decode b_M_init 14 = .ok (.sipush 200, 3) := by decide +kernel
theorem d_M_init_17 : decode b_M_init 17 = .ok (.newarray .int, 2) := by decide +kernel
theorem d_M_init_19 : decode b_M_init 19 = .ok (.putfield 13, 3) := by decide +kernel
theorem d_M_init_22 : decode b_M_init 22 = .ok (.aload_n 0, 1) := by decide +kernel
theorem d_M_init_23 : decode b_M_init 23 = .ok (.sipush 200, 3) := by decide +kernel
theorem d_M_init_26 : decode b_M_init 26 = .ok (.newarray .boolean, 2) := by decide +kernel
theorem d_M_init_28 : decode b_M_init 28 = .ok (.putfield 16, 3) := by decide +kernel
theorem d_M_init_31 : decode b_M_init 31 = .ok (.aload_n 0, 1) := by decide +kernel
theorem d_M_init_32 : decode b_M_init 32 = .ok (.sipush 401, 3) := by decide +kernel
theorem d_M_init_35 : decode b_M_init 35 = .ok (.newarray .boolean, 2) := by decide +kernel
theorem d_M_init_37 : decode b_M_init 37 = .ok (.putfield 20, 3) := by decide +kernel
theorem d_M_init_40 : decode b_M_init 40 = .ok (.aload_n 0, 1) := by decide +kernel
theorem d_M_init_41 : decode b_M_init 41 = .ok (.sipush 401, 3) := by decide +kernel
theorem d_M_init_44 : decode b_M_init 44 = .ok (.newarray .boolean, 2) := by decide +kernel
theorem d_M_init_46 : decode b_M_init 46 = .ok (.putfield 23, 3) := by decide +kernel
theorem d_M_init_49 : decode b_M_init 49 = .ok (.return_, 1) := by decide +kernel
theorem d_M_thrown_0 : decode b_M_thrown 0 = .ok (.aload_n 0, 1) := by decide +kernel
theorem d_M_thrown_1 : decode b_M_thrown 1 = .ok (.getfield 26, 3) := by decide +kernel
theorem d_M_thrown_4 : decode b_M_thrown 4 = .ok (.ireturn, 1) := by decide +kernel
theorem d_M_text_0 : decode b_M_text 0 = .ok (.aload_n 0, 1) := by decide +kernel
theorem d_M_text_1 : decode b_M_text 1 = .ok (.iconst 0, 1) := by decide +kernel
theorem d_M_text_2 : decode b_M_text 2 = .ok (.putfield 26, 3) := by decide +kernel
theorem d_M_text_5 : decode b_M_text 5 = .ok (.iload_n 3, 1) := by decide +kernel
theorem d_M_text_6 : decode b_M_text 6 = .ok (.ifCond .lt 21, 3) := by decide +kernel
theorem d_M_text_9 : decode b_M_text 9 = .ok (.iload_n 3, 1) := by decide +kernel
theorem d_M_text_10 : decode b_M_text 10 = .ok (.bipush 8, 2) := by decide +kernel
theorem d_M_text_12 : decode b_M_text 12 = .ok (.if_icmp .gt 15, 3) := by decide +kernel
theorem d_M_text_15 : decode b_M_text 15 = .ok (.aload_n 0, 1) := by decide +kernel
theorem d_M_text_16 : decode b_M_text 16 = .ok (.getfield 30, 3) := by decide +kernel
theorem d_M_text_19 : decode b_M_text 19 = .ok (.iload_n 3, 1) := by decide +kernel
theorem d_M_text_20 : decode b_M_text 20 = .ok (.iadd, 1) := by decide +kernel
theorem d_M_text_21 : decode b_M_text 21 = .ok (.sipush 400, 3) := by decide +kernel
theorem d_M_text_24 : decode b_M_text 24 = .ok (.if_icmp .le 5, 3) := by decide +kernel
theorem d_M_text_27 : decode b_M_text 27 = .ok (.iconst (-1), 1) := by decide +kernel
theorem d_M_text_28 : decode b_M_text 28 = .ok (.ireturn, 1) := by decide +kernel
theorem d_M_text_29 : decode b_M_text 29 = .ok (.iconst 0, 1) := by decide +kernel
theorem d_M_text_30 : decode b_M_text 30 = .ok (.istore 4, 2) := by decide +kernel
theorem d_M_text_32 : decode b_M_text 32 = .ok (.iload 4, 2) := by decide +kernel
theorem d_M_text_34 : decode b_M_text 34 = .ok (.iload_n 3, 1) := by decide +kernel
theorem d_M_text_35 : decode b_M_text 35 = .ok (.if_icmp .ge 37, 3) := by decide +kernel
theorem d_M_text_38 : decode b_M_text 38 = .ok (.aload_n 0, 1) := by decide +kernel
theorem d_M_text_39 : decode b_M_text 39 = .ok (.getfield 7, 3) := by decide +kernel
theorem d_M_text_42 : decode b_M_text 42 = .ok (.aload_n 0, 1) := by decide +kernel
theorem d_M_text_43 : decode b_M_text 43 = .ok (.getfield 30, 3) := by decide +kernel
theorem d_M_text_46 : decode b_M_text 46 = .ok (.iload 4, 2) := by decide +kernel
theorem d_M_text_48 : decode b_M_text 48 = .ok (.iadd, 1) := by decide +kernel
theorem d_M_text_49 : decode b_M_text 49 = .ok (.lload_n 1, 1) := by decide +kernel
theorem d_M_text_50 : decode b_M_text 50 = .ok (.bipush 8, 2) := by decide +kernel
theorem d_M_text_52 : decode b_M_text 52 = .ok (.iload_n 3, 1) := by decide +kernel
theorem d_M_text_53 : decode b_M_text 53 = .ok (.iconst 1, 1) := by decide +kernel
theorem d_M_text_54 : decode b_M_text 54 = .ok (.isub, 1) := by decide +kernel
theorem d_M_text_55 : decode b_M_text 55 = .ok (.iload 4, 2) := by decide +kernel
theorem d_M_text_57 : decode b_M_text 57 = .ok (.isub, 1) := by decide +kernel
theorem d_M_text_58 : decode b_M_text 58 = .ok (.imul, 1) := by decide +kernel
theorem d_M_text_59 : decode b_M_text 59 = .ok (.lshr, 1) := by decide +kernel
theorem d_M_text_60 : decode b_M_text 60 = .ok (.ldc2_w 33, 3) := by decide +kernel
theorem d_M_text_63 : decode b_M_text 63 = .ok (.land, 1) := by decide +kernel
theorem d_M_text_64 : decode b_M_text 64 = .ok (.l2i, 1) := by decide +kernel
theorem d_M_text_65 : decode b_M_text 65 = .ok (.iastore, 1) := by decide +kernel
theorem d_M_text_66 : decode b_M_text 66 = .ok (.iinc 4 1, 3) := by decide +kernel
theorem d_M_text_69 : decode b_M_text 69 = .ok (.goto (-37), 3) := by decide +kernel
theorem d_M_text_72 : decode b_M_text 72 = .ok (.aload_n 0, 1) := by decide +kernel
theorem d_M_text_73 : decode b_M_text 73 = .ok (.dup, 1) := by decide +kernel
theorem d_M_text_74 : decode b_M_text 74 = .ok (.getfield 30, 3) := by decide +kernel
theorem d_M_text_77 : decode b_M_text 77 = .ok (.iload_n 3, 1) := by decide +kernel
theorem d_M_text_78 : decode b_M_text 78 = .ok (.iadd, 1) := by decide +kernel
theorem d_M_text_79 : decode b_M_text 79 = .ok (.putfield 30, 3) := by decide +kernel
theorem d_M_text_82 : decode b_M_text 82 = .ok (.aload_n 0, 1) := by decide +kernel
theorem d_M_text_83 : decode b_M_text 83 = .ok (.getfield 30, 3) := by decide +kernel
theorem d_M_text_86 : decode b_M_text 86 = .ok (.ireturn, 1) := by decide +kernel
theorem d_M_pattern_0 : decode b_M_pattern 0 = .ok (.aload_n 0, 1) := by decide +kernel
theorem d_M_pattern_1 : decode b_M_pattern 1 = .ok (.iconst 0, 1) := by decide +kernel
theorem d_M_pattern_2 : decode b_M_pattern 2 = .ok (.putfield 26, 3) := by decide +kernel
theorem d_M_pattern_5 : decode b_M_pattern 5 = .ok (.iload_n 3, 1) := by decide +kernel
theorem d_M_pattern_6 : decode b_M_pattern 6 = .ok (.ifCond .lt 21, 3) := by decide +kernel
theorem d_M_pattern_9 : decode b_M_pattern 9 = .ok (.iload_n 3, 1) := by decide +kernel
theorem d_M_pattern_10 : decode b_M_pattern 10 = .ok (.bipush 8, 2) := by decide +kernel
theorem d_M_pattern_12 : decode b_M_pattern 12 = .ok (.if_icmp .gt 15, 3) := by decide +kernel
theorem d_M_pattern_15 : decode b_M_pattern 15 = .ok (.aload_n 0, 1) := by decide +kernel
theorem d_M_pattern_16 : decode b_M_pattern 16 = .ok (.getfield 35, 3) := by decide +kernel
theorem d_M_pattern_19 : decode b_M_pattern 19 = .ok (.iload_n 3, 1) := by decide +kernel
theorem d_M_pattern_20 : decode b_M_pattern 20 = .ok (.iadd, 1) := by decide +kernel
theorem d_M_pattern_21 : decode b_M_pattern 21 = .ok (.sipush 200, 3) := by decide +kernel
theorem d_M_pattern_24 : decode b_M_pattern 24 = .ok (.if_icmp .le 5, 3) := by decide +kernel
theorem d_M_pattern_27 : decode b_M_pattern 27 = .ok (.iconst (-1), 1) := by decide +kernel
theorem d_M_pattern_28 : decode b_M_pattern 28 = .ok (.ireturn, 1) := by decide +kernel
theorem d_M_pattern_29 : decode b_M_pattern 29 = .ok (.iconst 0, 1) := by decide +kernel
theorem d_M_pattern_30 : decode b_M_pattern 30 = .ok (.istore 5, 2) := by decide +kernel
theorem d_M_pattern_32 : decode b_M_pattern 32 = .ok (.iload 5, 2) := by decide +kernel
theorem d_M_pattern_34 : decode b_M_pattern 34 = .ok (.iload_n 3, 1) := by decide +kernel
theorem d_M_pattern_35 : decode b_M_pattern 35 = .ok (.if_icmp .ge 65, 3) := by decide +kernel
theorem d_M_pattern_38 : decode b_M_pattern 38 = .ok (.aload_n 0, 1) := by decide +kernel
theorem d_M_pattern_39 : decode b_M_pattern 39 = .ok (.getfield 13, 3) := by decide +kernel
theorem d_M_pattern_42 : decode b_M_pattern 42 = .ok (.aload_n 0, 1) := by decide +kernel
theorem d_M_pattern_43 : decode b_M_pattern 43 = .ok (.getfield 35, 3) := by decide +kernel
theorem d_M_pattern_46 : decode b_M_pattern 46 = .ok (.iload 5, 2) := by decide +kernel
theorem d_M_pattern_48 : decode b_M_pattern 48 = .ok (.iadd, 1) := by decide +kernel
theorem d_M_pattern_49 : decode b_M_pattern 49 = .ok (.lload_n 1, 1) := by decide +kernel
theorem d_M_pattern_50 : decode b_M_pattern 50 = .ok (.bipush 8, 2) := by decide +kernel
theorem d_M_pattern_52 : decode b_M_pattern 52 = .ok (.iload_n 3, 1) := by decide +kernel
theorem d_M_pattern_53 : decode b_M_pattern 53 = .ok (.iconst 1, 1) := by decide +kernel
theorem d_M_pattern_54 : decode b_M_pattern 54 = .ok (.isub, 1) := by decide +kernel
theorem d_M_pattern_55 : decode b_M_pattern 55 = .ok (.iload 5, 2) := by decide +kernel
theorem d_M_pattern_57 : decode b_M_pattern 57 = .ok (.isub, 1) := by decide +kernel
theorem d_M_pattern_58 : decode b_M_pattern 58 = .ok (.imul, 1) := by decide +kernel
theorem d_M_pattern_59 : decode b_M_pattern 59 = .ok (.lshr, 1) := by decide +kernel
theorem d_M_pattern_60 : decode b_M_pattern 60 = .ok (.ldc2_w 33, 3) := by decide +kernel
theorem d_M_pattern_63 : decode b_M_pattern 63 = .ok (.land, 1) := by decide +kernel
theorem d_M_pattern_64 : decode b_M_pattern 64 = .ok (.l2i, 1) := by decide +kernel
theorem d_M_pattern_65 : decode b_M_pattern 65 = .ok (.iastore, 1) := by decide +kernel
theorem d_M_pattern_66 : decode b_M_pattern 66 = .ok (.aload_n 0, 1) := by decide +kernel
theorem d_M_pattern_67 : decode b_M_pattern 67 = .ok (.getfield 16, 3) := by decide +kernel
theorem d_M_pattern_70 : decode b_M_pattern 70 = .ok (.aload_n 0, 1) := by decide +kernel
theorem d_M_pattern_71 : decode b_M_pattern 71 = .ok (.getfield 35, 3) := by decide +kernel
theorem d_M_pattern_74 : decode b_M_pattern 74 = .ok (.iload 5, 2) := by decide +kernel
theorem d_M_pattern_76 : decode b_M_pattern 76 = .ok (.iadd, 1) := by decide +kernel
theorem d_M_pattern_77 : decode b_M_pattern 77 = .ok (.iload 4, 2) := by decide +kernel
theorem d_M_pattern_79 : decode b_M_pattern 79 = .ok (.iload 5, 2) := by decide +kernel
theorem d_M_pattern_81 : decode b_M_pattern 81 = .ok (.ishr, 1) := by decide +kernel
theorem d_M_pattern_82 : decode b_M_pattern 82 = .ok (.iconst 1, 1) := by decide +kernel
theorem d_M_pattern_83 : decode b_M_pattern 83 = .ok (.iand, 1) := by decide +kernel
theorem d_M_pattern_84 : decode b_M_pattern 84 = .ok (.iconst 1, 1) := by decide +kernel
theorem d_M_pattern_85 : decode b_M_pattern 85 = .ok (.if_icmp .ne 7, 3) := by decide +kernel
theorem d_M_pattern_88 : decode b_M_pattern 88 = .ok (.iconst 1, 1) := by decide +kernel
theorem d_M_pattern_89 : decode b_M_pattern 89 = .ok (.goto 4, 3) := by decide +kernel
theorem d_M_pattern_92 : decode b_M_pattern 92 = .ok (.iconst 0, 1) := by decide +kernel
theorem d_M_pattern_93 : decode b_M_pattern 93 = .ok (.bastore, 1) := by decide +kernel
theorem d_M_pattern_94 : decode b_M_pattern 94 = .ok (.iinc 5 1, 3) := by decide +kernel
theorem d_M_pattern_97 : decode b_M_pattern 97 = .ok (.goto (-65), 3) := by decide +kernel
theorem d_M_pattern_100 : decode b_M_pattern 100 = .ok (.aload_n 0, 1) := by decide +kernel
theorem d_M_pattern_101 : decode b_M_pattern 101 = .ok (.dup, 1) := by decide +kernel
theorem d_M_pattern_102 : decode b_M_pattern 102 = .ok (.getfield 35, 3) := by decide +kernel
theorem d_M_pattern_105 : decode b_M_pattern 105 = .ok (.iload_n 3, 1) := by decide +kernel
theorem d_M_pattern_106 : decode b_M_pattern 106 = .ok (.iadd, 1) := by decide +kernel
theorem d_M_pattern_107 : decode b_M_pattern 107 = .ok (.putfield 35, 3) := by decide +kernel
theorem d_M_pattern_110 : decode b_M_pattern 110 = .ok (.aload_n 0, 1) := by decide +kernel
theorem d_M_pattern_111 : decode b_M_pattern 111 = .ok (.getfield 35, 3) := by decide +kernel
theorem d_M_pattern_114 : decode b_M_pattern 114 = .ok (.ireturn, 1) := by decide +kernel
theorem d_M_clear_0 : decode b_M_clear 0 = .ok (.aload_n 0, 1) := by decide +kernel
theorem d_M_clear_1 : decode b_M_clear 1 = .ok (.iconst 0, 1) := by decide +kernel
theorem d_M_clear_2 : decode b_M_clear 2 = .ok (.putfield 26, 3) := by decide +kernel
theorem d_M_clear_5 : decode b_M_clear 5 = .ok (.aload_n 0, 1) := by decide +kernel
theorem d_M_clear_6 : decode b_M_clear 6 = .ok (.getfield 30, 3) := by decide +kernel
theorem d_M_clear_9 : decode b_M_clear 9 = .ok (.istore_n 1, 1) := by decide +kernel
theorem d_M_clear_10 : decode b_M_clear 10 = .ok (.aload_n 0, 1) := by decide +kernel
theorem d_M_clear_11 : decode b_M_clear 11 = .ok (.iconst 0, 1) := by decide +kernel
theorem d_M_clear_12 : decode b_M_clear 12 = .ok (.putfield 30, 3) := by decide +kernel
theorem d_M_clear_15 : decode b_M_clear 15 = .ok (.aload_n 0, 1) := by decide +kernel
theorem d_M_clear_16 : decode b_M_clear 16 = .ok (.iconst 0, 1) := by decide +kernel
theorem d_M_clear_17 : decode b_M_clear 17 = .ok (.putfield 35, 3) := by decide +kernel
theorem d_M_clear_20 : decode b_M_clear 20 = .ok (.iload_n 1, 1) := by decide +kernel
theorem d_M_clear_21 : decode b_M_clear 21 = .ok (.ireturn, 1) := by decide +kernel
theorem d_M_is_0 : decode b_M_is 0 = .ok (.iload_n 1, 1) := by decide +kernel
theorem d_M_is_1 : decode b_M_is 1 = .ok (.aload_n 0, 1) := by decide +kernel
theorem d_M_is_2 : decode b_M_is 2 = .ok (.getfield 35, 3) := by decide +kernel
theorem d_M_is_5 : decode b_M_is 5 = .ok (.if_icmp .ge 26, 3) := by decide +kernel
theorem d_M_is_8 : decode b_M_is 8 = .ok (.aload_n 0, 1) := by decide +kernel
theorem d_M_is_9 : decode b_M_is 9 = .ok (.getfield 16, 3) := by decide +kernel
theorem d_M_is_12 : decode b_M_is 12 = .ok (.iload_n 1, 1) := by decide +kernel
theorem d_M_is_13 : decode b_M_is 13 = .ok (.baload, 1) := by decide +kernel
theorem d_M_is_14 : decode b_M_is 14 = .ok (.ifCond .ne 17, 3) := by decide +kernel
theorem d_M_is_17 : decode b_M_is 17 = .ok (.aload_n 0, 1) := by decide +kernel
theorem d_M_is_18 : decode b_M_is 18 = .ok (.getfield 13, 3) := by decide +kernel
theorem d_M_is_21 : decode b_M_is 21 = .ok (.iload_n 1, 1) := by decide +kernel
theorem d_M_is_22 : decode b_M_is 22 = .ok (.iaload, 1) := by decide +kernel
theorem d_M_is_23 : decode b_M_is 23 = .ok (.iload_n 2, 1) := by decide +kernel
theorem d_M_is_24 : decode b_M_is 24 = .ok (.if_icmp .ne 7, 3) := by decide +kernel
theorem d_M_is_27 : decode b_M_is 27 = .ok (.iconst 1, 1) := by decide +kernel
theorem d_M_is_28 : decode b_M_is 28 = .ok (.goto 4, 3) := by decide +kernel
theorem d_M_is_31 : decode b_M_is 31 = .ok (.iconst 0, 1) := by decide +kernel
end
section
theorem d_M_is_32 : decode b_M_is 32 = .ok (.ireturn, 1) := by decide +kernel
theorem d_M_closed_0 : decode b_M_closed 0 = .ok (.aload_n 0, 1) := by decide +kernel
theorem d_M_closed_1 : decode b_M_closed 1 = .ok (.iload_n 1, 1) := by decide +kernel
theorem d_M_closed_2 : decode b_M_closed 2 = .ok (.bipush 91, 2) := by decide +kernel
theorem d_M_closed_4 : decode b_M_closed 4 = .ok (.invokevirtual 38, 3) := by decide +kernel
theorem d_M_closed_7 : decode b_M_closed 7 = .ok (.ifCond .ne 5, 3) := by decide +kernel
theorem d_M_closed_10 : decode b_M_closed 10 = .ok (.iconst (-1), 1) := by decide +kernel
theorem d_M_closed_11 : decode b_M_closed 11 = .ok (.ireturn, 1) := by decide +kernel
theorem d_M_closed_12 : decode b_M_closed 12 = .ok (.aload_n 0, 1) := by decide +kernel
theorem d_M_closed_13 : decode b_M_closed 13 = .ok (.iload_n 1, 1) := by decide +kernel
theorem d_M_closed_14 : decode b_M_closed 14 = .ok (.iconst 1, 1) := by decide +kernel
theorem d_M_closed_15 : decode b_M_closed 15 = .ok (.iadd, 1) := by decide +kernel
theorem d_M_closed_16 : decode b_M_closed 16 = .ok (.bipush 33, 2) := by decide +kernel
theorem d_M_closed_18 : decode b_M_closed 18 = .ok (.invokevirtual 38, 3) := by decide +kernel
theorem d_M_closed_21 : decode b_M_closed 21 = .ok (.ifCond .eq 9, 3) := by decide +kernel
theorem d_M_closed_24 : decode b_M_closed 24 = .ok (.iload_n 1, 1) := by decide +kernel
theorem d_M_closed_25 : decode b_M_closed 25 = .ok (.iconst 3, 1) := by decide +kernel
theorem d_M_closed_26 : decode b_M_closed 26 = .ok (.iadd, 1) := by decide +kernel
theorem d_M_closed_27 : decode b_M_closed 27 = .ok (.goto 6, 3) := by decide +kernel
theorem d_M_closed_30 : decode b_M_closed 30 = .ok (.iload_n 1, 1) := by decide +kernel
theorem d_M_closed_31 : decode b_M_closed 31 = .ok (.iconst 2, 1) := by decide +kernel
theorem d_M_closed_32 : decode b_M_closed 32 = .ok (.iadd, 1) := by decide +kernel
theorem d_M_closed_33 : decode b_M_closed 33 = .ok (.istore_n 2, 1) := by decide +kernel
theorem d_M_closed_34 : decode b_M_closed 34 = .ok (.iload_n 2, 1) := by decide +kernel
theorem d_M_closed_35 : decode b_M_closed 35 = .ok (.aload_n 0, 1) := by decide +kernel
theorem d_M_closed_36 : decode b_M_closed 36 = .ok (.getfield 35, 3) := by decide +kernel
theorem d_M_closed_39 : decode b_M_closed 39 = .ok (.if_icmp .ge 19, 3) := by decide +kernel
theorem d_M_closed_42 : decode b_M_closed 42 = .ok (.aload_n 0, 1) := by decide +kernel
theorem d_M_closed_43 : decode b_M_closed 43 = .ok (.iload_n 2, 1) := by decide +kernel
theorem d_M_closed_44 : decode b_M_closed 44 = .ok (.bipush 93, 2) := by decide +kernel
theorem d_M_closed_46 : decode b_M_closed 46 = .ok (.invokevirtual 38, 3) := by decide +kernel
theorem d_M_closed_49 : decode b_M_closed 49 = .ok (.ifCond .ne 9, 3) := by decide +kernel
theorem d_M_closed_52 : decode b_M_closed 52 = .ok (.iinc 2 1, 3) := by decide +kernel
theorem d_M_closed_55 : decode b_M_closed 55 = .ok (.goto (-21), 3) := by decide +kernel
theorem d_M_closed_58 : decode b_M_closed 58 = .ok (.iload_n 2, 1) := by decide +kernel
theorem d_M_closed_59 : decode b_M_closed 59 = .ok (.aload_n 0, 1) := by decide +kernel
theorem d_M_closed_60 : decode b_M_closed 60 = .ok (.getfield 35, 3) := by decide +kernel
theorem d_M_closed_63 : decode b_M_closed 63 = .ok (.if_icmp .ge 7, 3) := by decide +kernel
theorem d_M_closed_66 : decode b_M_closed 66 = .ok (.iload_n 2, 1) := by decide +kernel
theorem d_M_closed_67 : decode b_M_closed 67 = .ok (.goto 4, 3) := by decide +kernel
theorem d_M_closed_70 : decode b_M_closed 70 = .ok (.iconst (-1), 1) := by decide +kernel
theorem d_M_closed_71 : decode b_M_closed 71 = .ok (.ireturn, 1) := by decide +kernel
theorem d_M_isMember_0 : decode b_M_isMember 0 = .ok (.iconst 0, 1) := by decide +kernel
theorem d_M_isMember_1 : decode b_M_isMember 1 = .ok (.istore 4, 2) := by decide +kernel
theorem d_M_isMember_3 : decode b_M_isMember 3 = .ok (.iload_n 1, 1) := by decide +kernel
theorem d_M_isMember_4 : decode b_M_isMember 4 = .ok (.istore 5, 2) := by decide +kernel
theorem d_M_isMember_6 : decode b_M_isMember 6 = .ok (.iload 5, 2) := by decide +kernel
theorem d_M_isMember_8 : decode b_M_isMember 8 = .ok (.iload_n 2, 1) := by decide +kernel
theorem d_M_isMember_9 : decode b_M_isMember 9 = .ok (.if_icmp .ge 104, 3) := by decide +kernel
theorem d_M_isMember_12 : decode b_M_isMember 12 = .ok (.iload 5, 2) := by decide +kernel
theorem d_M_isMember_14 : decode b_M_isMember 14 = .ok (.iconst 2, 1) := by decide +kernel
theorem d_M_isMember_15 : decode b_M_isMember 15 = .ok (.iadd, 1) := by decide +kernel
theorem d_M_isMember_16 : decode b_M_isMember 16 = .ok (.iload_n 2, 1) := by decide +kernel
theorem d_M_isMember_17 : decode b_M_isMember 17 = .ok (.if_icmp .ge 20, 3) := by decide +kernel
theorem d_M_isMember_20 : decode b_M_isMember 20 = .ok (.aload_n 0, 1) := by decide +kernel
theorem d_M_isMember_21 : decode b_M_isMember 21 = .ok (.iload 5, 2) := by decide +kernel
theorem d_M_isMember_23 : decode b_M_isMember 23 = .ok (.iconst 1, 1) := by decide +kernel
theorem d_M_isMember_24 : decode b_M_isMember 24 = .ok (.iadd, 1) := by decide +kernel
theorem d_M_isMember_25 : decode b_M_isMember 25 = .ok (.bipush 45, 2) := by decide +kernel
theorem d_M_isMember_27 : decode b_M_isMember 27 = .ok (.invokevirtual 38, 3) := by decide +kernel
theorem d_M_isMember_30 : decode b_M_isMember 30 = .ok (.ifCond .eq 7, 3) := by decide +kernel
theorem d_M_isMember_33 : decode b_M_isMember 33 = .ok (.iconst 1, 1) := by decide +kernel
theorem d_M_isMember_34 : decode b_M_isMember 34 = .ok (.goto 4, 3) := by decide +kernel
theorem d_M_isMember_37 : decode b_M_isMember 37 = .ok (.iconst 0, 1) := by decide +kernel
theorem d_M_isMember_38 : decode b_M_isMember 38 = .ok (.istore 6, 2) := by decide +kernel
theorem d_M_isMember_40 : decode b_M_isMember 40 = .ok (.iload 4, 2) := by decide +kernel
theorem d_M_isMember_42 : decode b_M_isMember 42 = .ok (.ifCond .ne 46, 3) := by decide +kernel
theorem d_M_isMember_45 : decode b_M_isMember 45 = .ok (.iload 6, 2) := by decide +kernel
theorem d_M_isMember_47 : decode b_M_isMember 47 = .ok (.ifCond .eq 30, 3) := by decide +kernel
theorem d_M_isMember_50 : decode b_M_isMember 50 = .ok (.iload_n 3, 1) := by decide +kernel
theorem d_M_isMember_51 : decode b_M_isMember 51 = .ok (.aload_n 0, 1) := by decide +kernel
theorem d_M_isMember_52 : decode b_M_isMember 52 = .ok (.getfield 13, 3) := by decide +kernel
theorem d_M_isMember_55 : decode b_M_isMember 55 = .ok (.iload 5, 2) := by decide +kernel
theorem d_M_isMember_57 : decode b_M_isMember 57 = .ok (.iaload, 1) := by decide +kernel
theorem d_M_isMember_58 : decode b_M_isMember 58 = .ok (.if_icmp .lt 34, 3) := by decide +kernel
theorem d_M_isMember_61 : decode b_M_isMember 61 = .ok (.iload_n 3, 1) := by decide +kernel
theorem d_M_isMember_62 : decode b_M_isMember 62 = .ok (.aload_n 0, 1) := by decide +kernel
theorem d_M_isMember_63 : decode b_M_isMember 63 = .ok (.getfield 13, 3) := by decide +kernel
theorem d_M_isMember_66 : decode b_M_isMember 66 = .ok (.iload 5, 2) := by decide +kernel
theorem d_M_isMember_68 : decode b_M_isMember 68 = .ok (.iconst 2, 1) := by decide +kernel
theorem d_M_isMember_69 : decode b_M_isMember 69 = .ok (.iadd, 1) := by decide +kernel
theorem d_M_isMember_70 : decode b_M_isMember 70 = .ok (.iaload, 1) := by decide +kernel
theorem d_M_isMember_71 : decode b_M_isMember 71 = .ok (.if_icmp .gt 21, 3) := by decide +kernel
theorem d_M_isMember_74 : decode b_M_isMember 74 = .ok (.goto 14, 3) := by decide +kernel
theorem d_M_isMember_77 : decode b_M_isMember 77 = .ok (.iload_n 3, 1) := by decide +kernel
theorem d_M_isMember_78 : decode b_M_isMember 78 = .ok (.aload_n 0, 1) := by decide +kernel
theorem d_M_isMember_79 : decode b_M_isMember 79 = .ok (.getfield 13, 3) := by decide +kernel
theorem d_M_isMember_82 : decode b_M_isMember 82 = .ok (.iload 5, 2) := by decide +kernel
theorem d_M_isMember_84 : decode b_M_isMember 84 = .ok (.iaload, 1) := by decide +kernel
theorem d_M_isMember_85 : decode b_M_isMember 85 = .ok (.if_icmp .ne 7, 3) := by decide +kernel
theorem d_M_isMember_88 : decode b_M_isMember 88 = .ok (.iconst 1, 1) := by decide +kernel
theorem d_M_isMember_89 : decode b_M_isMember 89 = .ok (.goto 4, 3) := by decide +kernel
theorem d_M_isMember_92 : decode b_M_isMember 92 = .ok (.iconst 0, 1) := by decide +kernel
theorem d_M_isMember_93 : decode b_M_isMember 93 = .ok (.istore 4, 2) := by decide +kernel
theorem d_M_isMember_95 : decode b_M_isMember 95 = .ok (.iload 5, 2) := by decide +kernel
theorem d_M_isMember_97 : decode b_M_isMember 97 = .ok (.iload 6, 2) := by decide +kernel
theorem d_M_isMember_99 : decode b_M_isMember 99 = .ok (.ifCond .eq 7, 3) := by decide +kernel
theorem d_M_isMember_102 : decode b_M_isMember 102 = .ok (.iconst 3, 1) := by decide +kernel
theorem d_M_isMember_103 : decode b_M_isMember 103 = .ok (.goto 4, 3) := by decide +kernel
theorem d_M_isMember_106 : decode b_M_isMember 106 = .ok (.iconst 1, 1) := by decide +kernel
theorem d_M_isMember_107 : decode b_M_isMember 107 = .ok (.iadd, 1) := by decide +kernel
theorem d_M_isMember_108 : decode b_M_isMember 108 = .ok (.istore 5, 2) := by decide +kernel
theorem d_M_isMember_110 : decode b_M_isMember 110 = .ok (.goto (-104), 3) := by decide +kernel
theorem d_M_isMember_113 : decode b_M_isMember 113 = .ok (.iload 4, 2) := by decide +kernel
theorem d_M_isMember_115 : decode b_M_isMember 115 = .ok (.ireturn, 1) := by decide +kernel
theorem d_M_takes_0 : decode b_M_takes 0 = .ok (.iload_n 2, 1) := by decide +kernel
theorem d_M_takes_1 : decode b_M_takes 1 = .ok (.iconst (-1), 1) := by decide +kernel
theorem d_M_takes_2 : decode b_M_takes 2 = .ok (.if_icmp .eq 45, 3) := by decide +kernel
theorem d_M_takes_5 : decode b_M_takes 5 = .ok (.aload_n 0, 1) := by decide +kernel
theorem d_M_takes_6 : decode b_M_takes 6 = .ok (.iload_n 1, 1) := by decide +kernel
theorem d_M_takes_7 : decode b_M_takes 7 = .ok (.iconst 1, 1) := by decide +kernel
theorem d_M_takes_8 : decode b_M_takes 8 = .ok (.iadd, 1) := by decide +kernel
theorem d_M_takes_9 : decode b_M_takes 9 = .ok (.bipush 33, 2) := by decide +kernel
theorem d_M_takes_11 : decode b_M_takes 11 = .ok (.invokevirtual 38, 3) := by decide +kernel
theorem d_M_takes_14 : decode b_M_takes 14 = .ok (.istore 4, 2) := by decide +kernel
theorem d_M_takes_16 : decode b_M_takes 16 = .ok (.aload_n 0, 1) := by decide +kernel
theorem d_M_takes_17 : decode b_M_takes 17 = .ok (.iload 4, 2) := by decide +kernel
theorem d_M_takes_19 : decode b_M_takes 19 = .ok (.ifCond .eq 9, 3) := by decide +kernel
theorem d_M_takes_22 : decode b_M_takes 22 = .ok (.iload_n 1, 1) := by decide +kernel
theorem d_M_takes_23 : decode b_M_takes 23 = .ok (.iconst 2, 1) := by decide +kernel
theorem d_M_takes_24 : decode b_M_takes 24 = .ok (.iadd, 1) := by decide +kernel
theorem d_M_takes_25 : decode b_M_takes 25 = .ok (.goto 6, 3) := by decide +kernel
theorem d_M_takes_28 : decode b_M_takes 28 = .ok (.iload_n 1, 1) := by decide +kernel
theorem d_M_takes_29 : decode b_M_takes 29 = .ok (.iconst 1, 1) := by decide +kernel
theorem d_M_takes_30 : decode b_M_takes 30 = .ok (.iadd, 1) := by decide +kernel
theorem d_M_takes_31 : decode b_M_takes 31 = .ok (.iload_n 2, 1) := by decide +kernel
theorem d_M_takes_32 : decode b_M_takes 32 = .ok (.iload_n 3, 1) := by decide +kernel
theorem d_M_takes_33 : decode b_M_takes 33 = .ok (.invokevirtual 42, 3) := by decide +kernel
theorem d_M_takes_36 : decode b_M_takes 36 = .ok (.iload 4, 2) := by decide +kernel
theorem d_M_takes_38 : decode b_M_takes 38 = .ok (.if_icmp .eq 7, 3) := by decide +kernel
theorem d_M_takes_41 : decode b_M_takes 41 = .ok (.iconst 1, 1) := by decide +kernel
theorem d_M_takes_42 : decode b_M_takes 42 = .ok (.goto 4, 3) := by decide +kernel
theorem d_M_takes_45 : decode b_M_takes 45 = .ok (.iconst 0, 1) := by decide +kernel
theorem d_M_takes_46 : decode b_M_takes 46 = .ok (.ireturn, 1) := by decide +kernel
theorem d_M_takes_47 : decode b_M_takes 47 = .ok (.aload_n 0, 1) := by decide +kernel
theorem d_M_takes_48 : decode b_M_takes 48 = .ok (.iload_n 1, 1) := by decide +kernel
theorem d_M_takes_49 : decode b_M_takes 49 = .ok (.bipush 63, 2) := by decide +kernel
theorem d_M_takes_51 : decode b_M_takes 51 = .ok (.invokevirtual 38, 3) := by decide +kernel
theorem d_M_takes_54 : decode b_M_takes 54 = .ok (.ifCond .ne 13, 3) := by decide +kernel
theorem d_M_takes_57 : decode b_M_takes 57 = .ok (.aload_n 0, 1) := by decide +kernel
theorem d_M_takes_58 : decode b_M_takes 58 = .ok (.getfield 13, 3) := by decide +kernel
theorem d_M_takes_61 : decode b_M_takes 61 = .ok (.iload_n 1, 1) := by decide +kernel
theorem d_M_takes_62 : decode b_M_takes 62 = .ok (.iaload, 1) := by decide +kernel
theorem d_M_takes_63 : decode b_M_takes 63 = .ok (.iload_n 3, 1) := by decide +kernel
theorem d_M_takes_64 : decode b_M_takes 64 = .ok (.if_icmp .ne 7, 3) := by decide +kernel
theorem d_M_takes_67 : decode b_M_takes 67 = .ok (.iconst 1, 1) := by decide +kernel
theorem d_M_takes_68 : decode b_M_takes 68 = .ok (.goto 4, 3) := by decide +kernel
theorem d_M_takes_71 : decode b_M_takes 71 = .ok (.iconst 0, 1) := by decide +kernel
theorem d_M_takes_72 : decode b_M_takes 72 = .ok (.ireturn, 1) := by decide +kernel
theorem d_M_go_0 : decode b_M_go 0 = .ok (.iconst 0, 1) := by decide +kernel
theorem d_M_go_1 : decode b_M_go 1 = .ok (.istore_n 3, 1) := by decide +kernel
theorem d_M_go_2 : decode b_M_go 2 = .ok (.iload_n 3, 1) := by decide +kernel
theorem d_M_go_3 : decode b_M_go 3 = .ok (.sipush 400, 3) := by decide +kernel
theorem d_M_go_6 : decode b_M_go 6 = .ok (.if_icmp .gt 25, 3) := by decide +kernel
theorem d_M_go_9 : decode b_M_go 9 = .ok (.aload_n 0, 1) := by decide +kernel
theorem d_M_go_10 : decode b_M_go 10 = .ok (.getfield 20, 3) := by decide +kernel
theorem d_M_go_13 : decode b_M_go 13 = .ok (.iload_n 3, 1) := by decide +kernel
theorem d_M_go_14 : decode b_M_go 14 = .ok (.iload_n 3, 1) := by decide +kernel
theorem d_M_go_15 : decode b_M_go 15 = .ok (.iload_n 1, 1) := by decide +kernel
theorem d_M_go_16 : decode b_M_go 16 = .ok (.if_icmp .ne 7, 3) := by decide +kernel
theorem d_M_go_19 : decode b_M_go 19 = .ok (.iconst 1, 1) := by decide +kernel
theorem d_M_go_20 : decode b_M_go 20 = .ok (.goto 4, 3) := by decide +kernel
theorem d_M_go_23 : decode b_M_go 23 = .ok (.iconst 0, 1) := by decide +kernel
theorem d_M_go_24 : decode b_M_go 24 = .ok (.bastore, 1) := by decide +kernel
theorem d_M_go_25 : decode b_M_go 25 = .ok (.iinc 3 1, 3) := by decide +kernel
theorem d_M_go_28 : decode b_M_go 28 = .ok (.goto (-26), 3) := by decide +kernel
theorem d_M_go_31 : decode b_M_go 31 = .ok (.iconst 0, 1) := by decide +kernel
theorem d_M_go_32 : decode b_M_go 32 = .ok (.istore_n 3, 1) := by decide +kernel
theorem d_M_go_33 : decode b_M_go 33 = .ok (.iload_n 3, 1) := by decide +kernel
theorem d_M_go_34 : decode b_M_go 34 = .ok (.aload_n 0, 1) := by decide +kernel
theorem d_M_go_35 : decode b_M_go 35 = .ok (.getfield 35, 3) := by decide +kernel
theorem d_M_go_38 : decode b_M_go 38 = .ok (.if_icmp .ge 195, 3) := by decide +kernel
theorem d_M_go_41 : decode b_M_go 41 = .ok (.aload_n 0, 1) := by decide +kernel
theorem d_M_go_42 : decode b_M_go 42 = .ok (.iload_n 3, 1) := by decide +kernel
theorem d_M_go_43 : decode b_M_go 43 = .ok (.invokevirtual 46, 3) := by decide +kernel
theorem d_M_go_46 : decode b_M_go 46 = .ok (.istore 4, 2) := by decide +kernel
theorem d_M_go_48 : decode b_M_go 48 = .ok (.aload_n 0, 1) := by decide +kernel
theorem d_M_go_49 : decode b_M_go 49 = .ok (.iload_n 3, 1) := by decide +kernel
theorem d_M_go_50 : decode b_M_go 50 = .ok (.bipush 42, 2) := by decide +kernel
theorem d_M_go_52 : decode b_M_go 52 = .ok (.invokevirtual 38, 3) := by decide +kernel
theorem d_M_go_55 : decode b_M_go 55 = .ok (.istore 5, 2) := by decide +kernel
theorem d_M_go_57 : decode b_M_go 57 = .ok (.iconst 0, 1) := by decide +kernel
theorem d_M_go_58 : decode b_M_go 58 = .ok (.istore 6, 2) := by decide +kernel
theorem d_M_go_60 : decode b_M_go 60 = .ok (.iload 6, 2) := by decide +kernel
theorem d_M_go_62 : decode b_M_go 62 = .ok (.sipush 400, 3) := by decide +kernel
theorem d_M_go_65 : decode b_M_go 65 = .ok (.if_icmp .gt 17, 3) := by decide +kernel
theorem d_M_go_68 : decode b_M_go 68 = .ok (.aload_n 0, 1) := by decide +kernel
theorem d_M_go_69 : decode b_M_go 69 = .ok (.getfield 23, 3) := by decide +kernel
theorem d_M_go_72 : decode b_M_go 72 = .ok (.iload 6, 2) := by decide +kernel
theorem d_M_go_74 : decode b_M_go 74 = .ok (.iconst 0, 1) := by decide +kernel
theorem d_M_go_75 : decode b_M_go 75 = .ok (.bastore, 1) := by decide +kernel
theorem d_M_go_76 : decode b_M_go 76 = .ok (.iinc 6 1, 3) := by decide +kernel
theorem d_M_go_79 : decode b_M_go 79 = .ok (.goto (-19), 3) := by decide +kernel
theorem d_M_go_82 : decode b_M_go 82 = .ok (.iconst 0, 1) := by decide +kernel
theorem d_M_go_83 : decode b_M_go 83 = .ok (.istore 6, 2) := by decide +kernel
theorem d_M_go_85 : decode b_M_go 85 = .ok (.iload_n 1, 1) := by decide +kernel
theorem d_M_go_86 : decode b_M_go 86 = .ok (.istore 7, 2) := by decide +kernel
theorem d_M_go_88 : decode b_M_go 88 = .ok (.iload 7, 2) := by decide +kernel
theorem d_M_go_90 : decode b_M_go 90 = .ok (.iload_n 2, 1) := by decide +kernel
theorem d_M_go_91 : decode b_M_go 91 = .ok (.if_icmp .gt 91, 3) := by decide +kernel
theorem d_M_go_94 : decode b_M_go 94 = .ok (.iload 6, 2) := by decide +kernel
theorem d_M_go_96 : decode b_M_go 96 = .ok (.ifCond .ne 13, 3) := by decide +kernel
theorem d_M_go_99 : decode b_M_go 99 = .ok (.aload_n 0, 1) := by decide +kernel
theorem d_M_go_100 : decode b_M_go 100 = .ok (.getfield 20, 3) := by decide +kernel
theorem d_M_go_103 : decode b_M_go 103 = .ok (.iload 7, 2) := by decide +kernel
theorem d_M_go_105 : decode b_M_go 105 = .ok (.baload, 1) := by decide +kernel
theorem d_M_go_106 : decode b_M_go 106 = .ok (.ifCond .eq 7, 3) := by decide +kernel
theorem d_M_go_109 : decode b_M_go 109 = .ok (.iconst 1, 1) := by decide +kernel
theorem d_M_go_110 : decode b_M_go 110 = .ok (.goto 4, 3) := by decide +kernel
theorem d_M_go_113 : decode b_M_go 113 = .ok (.iconst 0, 1) := by decide +kernel
theorem d_M_go_114 : decode b_M_go 114 = .ok (.istore 6, 2) := by decide +kernel
theorem d_M_go_116 : decode b_M_go 116 = .ok (.iload 5, 2) := by decide +kernel
theorem d_M_go_118 : decode b_M_go 118 = .ok (.ifCond .eq 15, 3) := by decide +kernel
theorem d_M_go_121 : decode b_M_go 121 = .ok (.aload_n 0, 1) := by decide +kernel
theorem d_M_go_122 : decode b_M_go 122 = .ok (.getfield 23, 3) := by decide +kernel
theorem d_M_go_125 : decode b_M_go 125 = .ok (.iload 7, 2) := by decide +kernel
theorem d_M_go_127 : decode b_M_go 127 = .ok (.iload 6, 2) := by decide +kernel
theorem d_M_go_129 : decode b_M_go 129 = .ok (.bastore, 1) := by decide +kernel
theorem d_M_go_130 : decode b_M_go 130 = .ok (.goto 46, 3) := by decide +kernel
theorem d_M_go_133 : decode b_M_go 133 = .ok (.aload_n 0, 1) := by decide +kernel
theorem d_M_go_134 : decode b_M_go 134 = .ok (.getfield 20, 3) := by decide +kernel
theorem d_M_go_137 : decode b_M_go 137 = .ok (.iload 7, 2) := by decide +kernel
theorem d_M_go_139 : decode b_M_go 139 = .ok (.baload, 1) := by decide +kernel
theorem d_M_go_140 : decode b_M_go 140 = .ok (.ifCond .eq 36, 3) := by decide +kernel
theorem d_M_go_143 : decode b_M_go 143 = .ok (.iload 7, 2) := by decide +kernel
theorem d_M_go_145 : decode b_M_go 145 = .ok (.iload_n 2, 1) := by decide +kernel
theorem d_M_go_146 : decode b_M_go 146 = .ok (.if_icmp .ge 30, 3) := by decide +kernel
theorem d_M_go_149 : decode b_M_go 149 = .ok (.aload_n 0, 1) := by decide +kernel
theorem d_M_go_150 : decode b_M_go 150 = .ok (.iload_n 3, 1) := by decide +kernel
theorem d_M_go_151 : decode b_M_go 151 = .ok (.iload 4, 2) := by decide +kernel
theorem d_M_go_153 : decode b_M_go 153 = .ok (.aload_n 0, 1) := by decide +kernel
theorem d_M_go_154 : decode b_M_go 154 = .ok (.getfield 7, 3) := by decide +kernel
theorem d_M_go_157 : decode b_M_go 157 = .ok (.iload 7, 2) := by decide +kernel
theorem d_M_go_159 : decode b_M_go 159 = .ok (.iaload, 1) := by decide +kernel
theorem d_M_go_160 : decode b_M_go 160 = .ok (.invokevirtual 50, 3) := by decide +kernel
theorem d_M_go_163 : decode b_M_go 163 = .ok (.ifCond .eq 13, 3) := by decide +kernel
theorem d_M_go_166 : decode b_M_go 166 = .ok (.aload_n 0, 1) := by decide +kernel
theorem d_M_go_167 : decode b_M_go 167 = .ok (.getfield 23, 3) := by decide +kernel
theorem d_M_go_170 : decode b_M_go 170 = .ok (.iload 7, 2) := by decide +kernel
theorem d_M_go_172 : decode b_M_go 172 = .ok (.iconst 1, 1) := by decide +kernel
theorem d_M_go_173 : decode b_M_go 173 = .ok (.iadd, 1) := by decide +kernel
theorem d_M_go_174 : decode b_M_go 174 = .ok (.iconst 1, 1) := by decide +kernel
theorem d_M_go_175 : decode b_M_go 175 = .ok (.bastore, 1) := by decide +kernel
theorem d_M_go_176 : decode b_M_go 176 = .ok (.iinc 7 1, 3) := by decide +kernel
theorem d_M_go_179 : decode b_M_go 179 = .ok (.goto (-91), 3) := by decide +kernel
theorem d_M_go_182 : decode b_M_go 182 = .ok (.iconst 0, 1) := by decide +kernel
theorem d_M_go_183 : decode b_M_go 183 = .ok (.istore 7, 2) := by decide +kernel
theorem d_M_go_185 : decode b_M_go 185 = .ok (.iload 7, 2) := by decide +kernel
theorem d_M_go_187 : decode b_M_go 187 = .ok (.sipush 400, 3) := by decide +kernel
theorem d_M_go_190 : decode b_M_go 190 = .ok (.if_icmp .gt 23, 3) := by decide +kernel
theorem d_M_go_193 : decode b_M_go 193 = .ok (.aload_n 0, 1) := by decide +kernel
theorem d_M_go_194 : decode b_M_go 194 = .ok (.getfield 20, 3) := by decide +kernel
theorem d_M_go_197 : decode b_M_go 197 = .ok (.iload 7, 2) := by decide +kernel
theorem d_M_go_199 : decode b_M_go 199 = .ok (.aload_n 0, 1) := by decide +kernel
theorem d_M_go_200 : decode b_M_go 200 = .ok (.getfield 23, 3) := by decide +kernel
theorem d_M_go_203 : decode b_M_go 203 = .ok (.iload 7, 2) := by decide +kernel
theorem d_M_go_205 : decode b_M_go 205 = .ok (.baload, 1) := by decide +kernel
theorem d_M_go_206 : decode b_M_go 206 = .ok (.bastore, 1) := by decide +kernel
theorem d_M_go_207 : decode b_M_go 207 = .ok (.iinc 7 1, 3) := by decide +kernel
theorem d_M_go_210 : decode b_M_go 210 = .ok (.goto (-25), 3) := by decide +kernel
theorem d_M_go_213 : decode b_M_go 213 = .ok (.iload 4, 2) := by decide +kernel
theorem d_M_go_215 : decode b_M_go 215 = .ok (.iconst (-1), 1) := by decide +kernel
theorem d_M_go_216 : decode b_M_go 216 = .ok (.if_icmp .eq 10, 3) := by decide +kernel
theorem d_M_go_219 : decode b_M_go 219 = .ok (.iload 4, 2) := by decide +kernel
theorem d_M_go_221 : decode b_M_go 221 = .ok (.iconst 1, 1) := by decide +kernel
theorem d_M_go_222 : decode b_M_go 222 = .ok (.iadd, 1) := by decide +kernel
theorem d_M_go_223 : decode b_M_go 223 = .ok (.goto 6, 3) := by decide +kernel
theorem d_M_go_226 : decode b_M_go 226 = .ok (.iload_n 3, 1) := by decide +kernel
theorem d_M_go_227 : decode b_M_go 227 = .ok (.iconst 1, 1) := by decide +kernel
theorem d_M_go_228 : decode b_M_go 228 = .ok (.iadd, 1) := by decide +kernel
theorem d_M_go_229 : decode b_M_go 229 = .ok (.istore_n 3, 1) := by decide +kernel
theorem d_M_go_230 : decode b_M_go 230 = .ok (.goto (-197), 3) := by decide +kernel
theorem d_M_go_233 : decode b_M_go 233 = .ok (.return_, 1) := by decide +kernel
theorem d_M_matches_0 : decode b_M_matches 0 = .ok (.aload_n 0, 1) := by decide +kernel
theorem d_M_matches_1 : decode b_M_matches 1 = .ok (.iconst 0, 1) := by decide +kernel
theorem d_M_matches_2 : decode b_M_matches 2 = .ok (.putfield 26, 3) := by decide +kernel
theorem d_M_matches_5 : decode b_M_matches 5 = .ok (.aload_n 0, 1) := by decide +kernel
theorem d_M_matches_6 : decode b_M_matches 6 = .ok (.iconst 0, 1) := by decide +kernel
theorem d_M_matches_7 : decode b_M_matches 7 = .ok (.aload_n 0, 1) := by decide +kernel
theorem d_M_matches_8 : decode b_M_matches 8 = .ok (.getfield 30, 3) := by decide +kernel
theorem d_M_matches_11 : decode b_M_matches 11 = .ok (.invokevirtual 53, 3) := by decide +kernel
theorem d_M_matches_14 : decode b_M_matches 14 = .ok (.aload_n 0, 1) := by decide +kernel
theorem d_M_matches_15 : decode b_M_matches 15 = .ok (.getfield 20, 3) := by decide +kernel
theorem d_M_matches_18 : decode b_M_matches 18 = .ok (.aload_n 0, 1) := by decide +kernel
theorem d_M_matches_19 : decode b_M_matches 19 = .ok (.getfield 30, 3) := by decide +kernel
theorem d_M_matches_22 : decode b_M_matches 22 = .ok (.baload, 1) := by decide +kernel
theorem d_M_matches_23 : decode b_M_matches 23 = .ok (.ireturn, 1) := by decide +kernel
theorem d_M_part_0 : decode b_M_part 0 = .ok (.aload_n 0, 1) := by decide +kernel
theorem d_M_part_1 : decode b_M_part 1 = .ok (.iload_n 1, 1) := by decide +kernel
theorem d_M_part_2 : decode b_M_part 2 = .ok (.ifCond .lt 16, 3) := by decide +kernel
theorem d_M_part_5 : decode b_M_part 5 = .ok (.iload_n 2, 1) := by decide +kernel
theorem d_M_part_6 : decode b_M_part 6 = .ok (.iload_n 1, 1) := by decide +kernel
theorem d_M_part_7 : decode b_M_part 7 = .ok (.if_icmp .lt 11, 3) := by decide +kernel
theorem d_M_part_10 : decode b_M_part 10 = .ok (.iload_n 2, 1) := by decide +kernel
theorem d_M_part_11 : decode b_M_part 11 = .ok (.aload_n 0, 1) := by decide +kernel
theorem d_M_part_12 : decode b_M_part 12 = .ok (.getfield 30, 3) := by decide +kernel
theorem d_M_part_15 : decode b_M_part 15 = .ok (.if_icmp .le 7, 3) := by decide +kernel
theorem d_M_part_18 : decode b_M_part 18 = .ok (.iconst 1, 1) := by decide +kernel
theorem d_M_part_19 : decode b_M_part 19 = .ok (.goto 4, 3) := by decide +kernel
theorem d_M_part_22 : decode b_M_part 22 = .ok (.iconst 0, 1) := by decide +kernel
theorem d_M_part_23 : decode b_M_part 23 = .ok (.putfield 26, 3) := by decide +kernel
theorem d_M_part_26 : decode b_M_part 26 = .ok (.aload_n 0, 1) := by decide +kernel
theorem d_M_part_27 : decode b_M_part 27 = .ok (.getfield 26, 3) := by decide +kernel
theorem d_M_part_30 : decode b_M_part 30 = .ok (.ifCond .le 5, 3) := by decide +kernel
theorem d_M_part_33 : decode b_M_part 33 = .ok (.iconst 0, 1) := by decide +kernel
theorem d_M_part_34 : decode b_M_part 34 = .ok (.ireturn, 1) := by decide +kernel
theorem d_M_part_35 : decode b_M_part 35 = .ok (.aload_n 0, 1) := by decide +kernel
theorem d_M_part_36 : decode b_M_part 36 = .ok (.iload_n 1, 1) := by decide +kernel
theorem d_M_part_37 : decode b_M_part 37 = .ok (.iload_n 2, 1) := by decide +kernel
theorem d_M_part_38 : decode b_M_part 38 = .ok (.invokevirtual 53, 3) := by decide +kernel
theorem d_M_part_41 : decode b_M_part 41 = .ok (.aload_n 0, 1) := by decide +kernel
theorem d_M_part_42 : decode b_M_part 42 = .ok (.getfield 20, 3) := by decide +kernel
theorem d_M_part_45 : decode b_M_part 45 = .ok (.iload_n 2, 1) := by decide +kernel
theorem d_M_part_46 : decode b_M_part 46 = .ok (.baload, 1) := by decide +kernel
theorem d_M_part_47 : decode b_M_part 47 = .ok (.ireturn, 1) := by decide +kernel
theorem d_M_cut_0 : decode b_M_cut 0 = .ok (.aload_n 0, 1) := by decide +kernel
theorem d_M_cut_1 : decode b_M_cut 1 = .ok (.iconst 0, 1) := by decide +kernel
theorem d_M_cut_2 : decode b_M_cut 2 = .ok (.putfield 26, 3) := by decide +kernel
theorem d_M_cut_5 : decode b_M_cut 5 = .ok (.iconst (-1), 1) := by decide +kernel
theorem d_M_cut_6 : decode b_M_cut 6 = .ok (.istore_n 3, 1) := by decide +kernel
theorem d_M_cut_7 : decode b_M_cut 7 = .ok (.iload_n 1, 1) := by decide +kernel
theorem d_M_cut_8 : decode b_M_cut 8 = .ok (.ifCond .ne 58, 3) := by decide +kernel
theorem d_M_cut_11 : decode b_M_cut 11 = .ok (.aload_n 0, 1) := by decide +kernel
theorem d_M_cut_12 : decode b_M_cut 12 = .ok (.iconst 0, 1) := by decide +kernel
theorem d_M_cut_13 : decode b_M_cut 13 = .ok (.aload_n 0, 1) := by decide +kernel
theorem d_M_cut_14 : decode b_M_cut 14 = .ok (.getfield 30, 3) := by decide +kernel
theorem d_M_cut_17 : decode b_M_cut 17 = .ok (.invokevirtual 53, 3) := by decide +kernel
theorem d_M_cut_20 : decode b_M_cut 20 = .ok (.iconst 0, 1) := by decide +kernel
theorem d_M_cut_21 : decode b_M_cut 21 = .ok (.istore 4, 2) := by decide +kernel
theorem d_M_cut_23 : decode b_M_cut 23 = .ok (.iload 4, 2) := by decide +kernel
theorem d_M_cut_25 : decode b_M_cut 25 = .ok (.aload_n 0, 1) := by decide +kernel
theorem d_M_cut_26 : decode b_M_cut 26 = .ok (.getfield 30, 3) := by decide +kernel
theorem d_M_cut_29 : decode b_M_cut 29 = .ok (.if_icmp .gt 35, 3) := by decide +kernel
theorem d_M_cut_32 : decode b_M_cut 32 = .ok (.aload_n 0, 1) := by decide +kernel
theorem d_M_cut_33 : decode b_M_cut 33 = .ok (.getfield 20, 3) := by decide +kernel
theorem d_M_cut_36 : decode b_M_cut 36 = .ok (.iload 4, 2) := by decide +kernel
theorem d_M_cut_38 : decode b_M_cut 38 = .ok (.baload, 1) := by decide +kernel
theorem d_M_cut_39 : decode b_M_cut 39 = .ok (.ifCond .eq 17, 3) := by decide +kernel
theorem d_M_cut_42 : decode b_M_cut 42 = .ok (.iload_n 2, 1) := by decide +kernel
theorem d_M_cut_43 : decode b_M_cut 43 = .ok (.ifCond .ne 8, 3) := by decide +kernel
theorem d_M_cut_46 : decode b_M_cut 46 = .ok (.iload_n 3, 1) := by decide +kernel
theorem d_M_cut_47 : decode b_M_cut 47 = .ok (.iconst (-1), 1) := by decide +kernel
theorem d_M_cut_48 : decode b_M_cut 48 = .ok (.if_icmp .ne 8, 3) := by decide +kernel
theorem d_M_cut_51 : decode b_M_cut 51 = .ok (.iload 4, 2) := by decide +kernel
theorem d_M_cut_53 : decode b_M_cut 53 = .ok (.goto 4, 3) := by decide +kernel
theorem d_M_cut_56 : decode b_M_cut 56 = .ok (.iload_n 3, 1) := by decide +kernel
theorem d_M_cut_57 : decode b_M_cut 57 = .ok (.istore_n 3, 1) := by decide +kernel
theorem d_M_cut_58 : decode b_M_cut 58 = .ok (.iinc 4 1, 3) := by decide +kernel
theorem d_M_cut_61 : decode b_M_cut 61 = .ok (.goto (-38), 3) := by decide +kernel
theorem d_M_cut_64 : decode b_M_cut 64 = .ok (.iload_n 3, 1) := by decide +kernel
theorem d_M_cut_65 : decode b_M_cut 65 = .ok (.ireturn, 1) := by decide +kernel
theorem d_M_cut_66 : decode b_M_cut 66 = .ok (.aload_n 0, 1) := by decide +kernel
theorem d_M_cut_67 : decode b_M_cut 67 = .ok (.getfield 30, 3) := by decide +kernel
theorem d_M_cut_70 : decode b_M_cut 70 = .ok (.istore 4, 2) := by decide +kernel
theorem d_M_cut_72 : decode b_M_cut 72 = .ok (.iload 4, 2) := by decide +kernel
theorem d_M_cut_74 : decode b_M_cut 74 = .ok (.ifCond .lt 55, 3) := by decide +kernel
theorem d_M_cut_77 : decode b_M_cut 77 = .ok (.iload_n 3, 1) := by decide +kernel
theorem d_M_cut_78 : decode b_M_cut 78 = .ok (.iconst (-1), 1) := by decide +kernel
theorem d_M_cut_79 : decode b_M_cut 79 = .ok (.if_icmp .eq 10, 3) := by decide +kernel
theorem d_M_cut_82 : decode b_M_cut 82 = .ok (.iload_n 2, 1) := by decide +kernel
theorem d_M_cut_83 : decode b_M_cut 83 = .ok (.ifCond .ne 6, 3) := by decide +kernel
theorem d_M_cut_86 : decode b_M_cut 86 = .ok (.goto 37, 3) := by decide +kernel
theorem d_M_cut_89 : decode b_M_cut 89 = .ok (.aload_n 0, 1) := by decide +kernel
theorem d_M_cut_90 : decode b_M_cut 90 = .ok (.iload 4, 2) := by decide +kernel
theorem d_M_cut_92 : decode b_M_cut 92 = .ok (.aload_n 0, 1) := by decide +kernel
theorem d_M_cut_93 : decode b_M_cut 93 = .ok (.getfield 30, 3) := by decide +kernel
theorem d_M_cut_96 : decode b_M_cut 96 = .ok (.invokevirtual 53, 3) := by decide +kernel
theorem d_M_cut_99 : decode b_M_cut 99 = .ok (.aload_n 0, 1) := by decide +kernel
theorem d_M_cut_100 : decode b_M_cut 100 = .ok (.getfield 20, 3) := by decide +kernel
theorem d_M_cut_103 : decode b_M_cut 103 = .ok (.aload_n 0, 1) := by decide +kernel
theorem d_M_cut_104 : decode b_M_cut 104 = .ok (.getfield 30, 3) := by decide +kernel
theorem d_M_cut_107 : decode b_M_cut 107 = .ok (.baload, 1) := by decide +kernel
theorem d_M_cut_108 : decode b_M_cut 108 = .ok (.ifCond .eq 13, 3) := by decide +kernel
theorem d_M_cut_111 : decode b_M_cut 111 = .ok (.aload_n 0, 1) := by decide +kernel
theorem d_M_cut_112 : decode b_M_cut 112 = .ok (.getfield 30, 3) := by decide +kernel
theorem d_M_cut_115 : decode b_M_cut 115 = .ok (.iload 4, 2) := by decide +kernel
theorem d_M_cut_117 : decode b_M_cut 117 = .ok (.isub, 1) := by decide +kernel
theorem d_M_cut_118 : decode b_M_cut 118 = .ok (.goto 4, 3) := by decide +kernel
theorem d_M_cut_121 : decode b_M_cut 121 = .ok (.iload_n 3, 1) := by decide +kernel
theorem d_M_cut_122 : decode b_M_cut 122 = .ok (.istore_n 3, 1) := by decide +kernel
theorem d_M_cut_123 : decode b_M_cut 123 = .ok (.iinc 4 (-1), 3) := by decide +kernel
theorem d_M_cut_126 : decode b_M_cut 126 = .ok (.goto (-54), 3) := by decide +kernel
theorem d_M_cut_129 : decode b_M_cut 129 = .ok (.iload_n 3, 1) := by decide +kernel
theorem d_M_cut_130 : decode b_M_cut 130 = .ok (.ireturn, 1) := by decide +kernel
theorem d_M_isSpecial_0 : decode b_M_isSpecial 0 = .ok (.aload_n 0, 1) := by decide +kernel
theorem d_M_isSpecial_1 : decode b_M_isSpecial 1 = .ok (.iconst 0, 1) := by decide +kernel
theorem d_M_isSpecial_2 : decode b_M_isSpecial 2 = .ok (.putfield 26, 3) := by decide +kernel
theorem d_M_isSpecial_5 : decode b_M_isSpecial 5 = .ok (.iconst 0, 1) := by decide +kernel
theorem d_M_isSpecial_6 : decode b_M_isSpecial 6 = .ok (.istore_n 1, 1) := by decide +kernel
theorem d_M_isSpecial_7 : decode b_M_isSpecial 7 = .ok (.iconst 0, 1) := by decide +kernel
theorem d_M_isSpecial_8 : decode b_M_isSpecial 8 = .ok (.istore_n 2, 1) := by decide +kernel
theorem d_M_isSpecial_9 : decode b_M_isSpecial 9 = .ok (.iload_n 2, 1) := by decide +kernel
theorem d_M_isSpecial_10 : decode b_M_isSpecial 10 = .ok (.aload_n 0, 1) := by decide +kernel
theorem d_M_isSpecial_11 : decode b_M_isSpecial 11 = .ok (.getfield 35, 3) := by decide +kernel
theorem d_M_isSpecial_14 : decode b_M_isSpecial 14 = .ok (.if_icmp .ge 49, 3) := by decide +kernel
theorem d_M_isSpecial_17 : decode b_M_isSpecial 17 = .ok (.iload_n 1, 1) := by decide +kernel
theorem d_M_isSpecial_18 : decode b_M_isSpecial 18 = .ok (.ifCond .ne 33, 3) := by decide +kernel
theorem d_M_isSpecial_21 : decode b_M_isSpecial 21 = .ok (.aload_n 0, 1) := by decide +kernel
theorem d_M_isSpecial_22 : decode b_M_isSpecial 22 = .ok (.iload_n 2, 1) := by decide +kernel
theorem d_M_isSpecial_23 : decode b_M_isSpecial 23 = .ok (.bipush 42, 2) := by decide +kernel
theorem d_M_isSpecial_25 : decode b_M_isSpecial 25 = .ok (.invokevirtual 38, 3) := by decide +kernel
theorem d_M_isSpecial_28 : decode b_M_isSpecial 28 = .ok (.ifCond .ne 23, 3) := by decide +kernel
theorem d_M_isSpecial_31 : decode b_M_isSpecial 31 = .ok (.aload_n 0, 1) := by decide +kernel
theorem d_M_isSpecial_32 : decode b_M_isSpecial 32 = .ok (.iload_n 2, 1) := by decide +kernel
theorem d_M_isSpecial_33 : decode b_M_isSpecial 33 = .ok (.bipush 63, 2) := by decide +kernel
theorem d_M_isSpecial_35 : decode b_M_isSpecial 35 = .ok (.invokevirtual 38, 3) := by decide +kernel
theorem d_M_isSpecial_38 : decode b_M_isSpecial 38 = .ok (.ifCond .ne 13, 3) := by decide +kernel
theorem d_M_isSpecial_41 : decode b_M_isSpecial 41 = .ok (.aload_n 0, 1) := by decide +kernel
theorem d_M_isSpecial_42 : decode b_M_isSpecial 42 = .ok (.iload_n 2, 1) := by decide +kernel
theorem d_M_isSpecial_43 : decode b_M_isSpecial 43 = .ok (.bipush 91, 2) := by decide +kernel
theorem d_M_isSpecial_45 : decode b_M_isSpecial 45 = .ok (.invokevirtual 38, 3) := by decide +kernel
theorem d_M_isSpecial_48 : decode b_M_isSpecial 48 = .ok (.ifCond .eq 7, 3) := by decide +kernel
theorem d_M_isSpecial_51 : decode b_M_isSpecial 51 = .ok (.iconst 1, 1) := by decide +kernel
theorem d_M_isSpecial_52 : decode b_M_isSpecial 52 = .ok (.goto 4, 3) := by decide +kernel
theorem d_M_isSpecial_55 : decode b_M_isSpecial 55 = .ok (.iconst 0, 1) := by decide +kernel
theorem d_M_isSpecial_56 : decode b_M_isSpecial 56 = .ok (.istore_n 1, 1) := by decide +kernel
theorem d_M_isSpecial_57 : decode b_M_isSpecial 57 = .ok (.iinc 2 1, 3) := by decide +kernel
theorem d_M_isSpecial_60 : decode b_M_isSpecial 60 = .ok (.goto (-51), 3) := by decide +kernel
theorem d_M_isSpecial_63 : decode b_M_isSpecial 63 = .ok (.iload_n 1, 1) := by decide +kernel
theorem d_M_isSpecial_64 : decode b_M_isSpecial 64 = .ok (.ireturn, 1) := by decide +kernel
end
section
theorem d_M_count_0 : decode b_M_count 0 = .ok (.aload_n 0, 1) := by decide +kernel
theorem d_M_count_1 : decode b_M_count 1 = .ok (.iconst 0, 1) := by decide +kernel
theorem d_M_count_2 : decode b_M_count 2 = .ok (.putfield 26, 3) := by decide +kernel
theorem d_M_count_5 : decode b_M_count 5 = .ok (.iconst 0, 1) := by decide +kernel
theorem d_M_count_6 : decode b_M_count 6 = .ok (.istore_n 2, 1) := by decide +kernel
theorem d_M_count_7 : decode b_M_count 7 = .ok (.iconst 0, 1) := by decide +kernel
theorem d_M_count_8 : decode b_M_count 8 = .ok (.istore_n 3, 1) := by decide +kernel
theorem d_M_count_9 : decode b_M_count 9 = .ok (.iload_n 3, 1) := by decide +kernel
theorem d_M_count_10 : decode b_M_count 10 = .ok (.aload_n 0, 1) := by decide +kernel
theorem d_M_count_11 : decode b_M_count 11 = .ok (.getfield 35, 3) := by decide +kernel
theorem d_M_count_14 : decode b_M_count 14 = .ok (.if_icmp .ge 48, 3) := by decide +kernel
theorem d_M_count_17 : decode b_M_count 17 = .ok (.iload_n 2, 1) := by decide +kernel
theorem d_M_count_18 : decode b_M_count 18 = .ok (.iload_n 1, 1) := by decide +kernel
theorem d_M_count_19 : decode b_M_count 19 = .ok (.iconst 2, 1) := by decide +kernel
theorem d_M_count_20 : decode b_M_count 20 = .ok (.if_icmp .ne 20, 3) := by decide +kernel
theorem d_M_count_23 : decode b_M_count 23 = .ok (.aload_n 0, 1) := by decide +kernel
theorem d_M_count_24 : decode b_M_count 24 = .ok (.getfield 16, 3) := by decide +kernel
theorem d_M_count_27 : decode b_M_count 27 = .ok (.iload_n 3, 1) := by decide +kernel
theorem d_M_count_28 : decode b_M_count 28 = .ok (.baload, 1) := by decide +kernel
theorem d_M_count_29 : decode b_M_count 29 = .ok (.ifCond .eq 7, 3) := by decide +kernel
theorem d_M_count_32 : decode b_M_count 32 = .ok (.iconst 1, 1) := by decide +kernel
theorem d_M_count_33 : decode b_M_count 33 = .ok (.goto 21, 3) := by decide +kernel
theorem d_M_count_36 : decode b_M_count 36 = .ok (.iconst 0, 1) := by decide +kernel
theorem d_M_count_37 : decode b_M_count 37 = .ok (.goto 17, 3) := by decide +kernel
theorem d_M_count_40 : decode b_M_count 40 = .ok (.aload_n 0, 1) := by decide +kernel
theorem d_M_count_41 : decode b_M_count 41 = .ok (.iload_n 3, 1) := by decide +kernel
theorem d_M_count_42 : decode b_M_count 42 = .ok (.invokevirtual 46, 3) := by decide +kernel
theorem d_M_count_45 : decode b_M_count 45 = .ok (.iconst (-1), 1) := by decide +kernel
theorem d_M_count_46 : decode b_M_count 46 = .ok (.if_icmp .eq 7, 3) := by decide +kernel
theorem d_M_count_49 : decode b_M_count 49 = .ok (.iconst 1, 1) := by decide +kernel
theorem d_M_count_50 : decode b_M_count 50 = .ok (.goto 4, 3) := by decide +kernel
theorem d_M_count_53 : decode b_M_count 53 = .ok (.iconst 0, 1) := by decide +kernel
theorem d_M_count_54 : decode b_M_count 54 = .ok (.iadd, 1) := by decide +kernel
theorem d_M_count_55 : decode b_M_count 55 = .ok (.istore_n 2, 1) := by decide +kernel
theorem d_M_count_56 : decode b_M_count 56 = .ok (.iinc 3 1, 3) := by decide +kernel
theorem d_M_count_59 : decode b_M_count 59 = .ok (.goto (-50), 3) := by decide +kernel
theorem d_M_count_62 : decode b_M_count 62 = .ok (.iload_n 1, 1) := by decide +kernel
theorem d_M_count_63 : decode b_M_count 63 = .ok (.ifCond .ne 10, 3) := by decide +kernel
theorem d_M_count_66 : decode b_M_count 66 = .ok (.aload_n 0, 1) := by decide +kernel
theorem d_M_count_67 : decode b_M_count 67 = .ok (.getfield 30, 3) := by decide +kernel
theorem d_M_count_70 : decode b_M_count 70 = .ok (.goto 30, 3) := by decide +kernel
theorem d_M_count_73 : decode b_M_count 73 = .ok (.iload_n 1, 1) := by decide +kernel
theorem d_M_count_74 : decode b_M_count 74 = .ok (.iconst 1, 1) := by decide +kernel
theorem d_M_count_75 : decode b_M_count 75 = .ok (.if_icmp .ne 10, 3) := by decide +kernel
theorem d_M_count_78 : decode b_M_count 78 = .ok (.aload_n 0, 1) := by decide +kernel
theorem d_M_count_79 : decode b_M_count 79 = .ok (.getfield 35, 3) := by decide +kernel
theorem d_M_count_82 : decode b_M_count 82 = .ok (.goto 18, 3) := by decide +kernel
theorem d_M_count_85 : decode b_M_count 85 = .ok (.iload_n 1, 1) := by decide +kernel
theorem d_M_count_86 : decode b_M_count 86 = .ok (.iconst 2, 1) := by decide +kernel
theorem d_M_count_87 : decode b_M_count 87 = .ok (.if_icmp .eq 8, 3) := by decide +kernel
theorem d_M_count_90 : decode b_M_count 90 = .ok (.iload_n 1, 1) := by decide +kernel
theorem d_M_count_91 : decode b_M_count 91 = .ok (.iconst 3, 1) := by decide +kernel
theorem d_M_count_92 : decode b_M_count 92 = .ok (.if_icmp .ne 7, 3) := by decide +kernel
theorem d_M_count_95 : decode b_M_count 95 = .ok (.iload_n 2, 1) := by decide +kernel
theorem d_M_count_96 : decode b_M_count 96 = .ok (.goto 4, 3) := by decide +kernel
theorem d_M_count_99 : decode b_M_count 99 = .ok (.iconst (-1), 1) := by decide +kernel
theorem d_M_count_100 : decode b_M_count 100 = .ok (.ireturn, 1) := by decide +kernel
theorem d_L_part_0 : decode b_L_part 0 = .ok (.aload_n 3, 1) := by decide +kernel
theorem d_L_part_1 : decode b_L_part 1 = .ok (.iconst 0, 1) := by decide +kernel
theorem d_L_part_2 : decode b_L_part 2 = .ok (.aload_n 0, 1) := by decide +kernel
theorem d_L_part_3 : decode b_L_part 3 = .ok (.iload_n 1, 1) := by decide +kernel
theorem d_L_part_4 : decode b_L_part 4 = .ok (.iload_n 2, 1) := by decide +kernel
theorem d_L_part_5 : decode b_L_part 5 = .ok (.invokevirtual 7, 3) := by decide +kernel
theorem d_L_part_8 : decode b_L_part 8 = .ok (.ifCond .eq 7, 3) := by decide +kernel
theorem d_L_part_11 : decode b_L_part 11 = .ok (.lconst 1, 1) := by decide +kernel
theorem d_L_part_12 : decode b_L_part 12 = .ok (.goto 4, 3) := by decide +kernel
theorem d_L_part_15 : decode b_L_part 15 = .ok (.lconst 0, 1) := by decide +kernel
theorem d_L_part_16 : decode b_L_part 16 = .ok (.lastore, 1) := by decide +kernel
theorem d_L_part_17 : decode b_L_part 17 = .ok (.goto 7, 3) := by decide +kernel
theorem d_L_part_20 : decode b_L_part 20 = .ok (.astore 4, 2) := by decide +kernel
theorem d_L_part_22 : decode b_L_part 22 = .ok (.iconst 1, 1) := by decide +kernel
theorem d_L_part_23 : decode b_L_part 23 = .ok (.ireturn, 1) := by decide +kernel
theorem d_L_part_24 : decode b_L_part 24 = .ok (.iconst 0, 1) := by decide +kernel
theorem d_L_part_25 : decode b_L_part 25 = .ok (.ireturn, 1) := by decide +kernel
theorem d_L_law_0 : decode b_L_law 0 = .ok (.new 8, 3) := by decide +kernel
theorem d_L_law_3 : decode b_L_law 3 = .ok (.dup, 1) := by decide +kernel
theorem d_L_law_4 : decode b_L_law 4 = .ok (.invokespecial 15, 3) := by decide +kernel
theorem d_L_law_7 : decode b_L_law 7 = .ok (.astore_n 1, 1) := by decide +kernel
theorem d_L_law_8 : decode b_L_law 8 = .ok (.new 16, 3) := by decide +kernel
theorem d_L_law_11 : decode b_L_law 11 = .ok (.dup, 1) := by decide +kernel
theorem d_L_law_12 : decode b_L_law 12 = .ok (.invokespecial 18, 3) := by decide +kernel
theorem d_L_law_15 : decode b_L_law 15 = .ok (.astore_n 2, 1) := by decide +kernel
theorem d_L_law_16 : decode b_L_law 16 = .ok (.iconst 1, 1) := by decide +kernel
theorem d_L_law_17 : decode b_L_law 17 = .ok (.newarray .long, 2) := by decide +kernel
theorem d_L_law_19 : decode b_L_law 19 = .ok (.astore_n 3, 1) := by decide +kernel
theorem d_L_law_20 : decode b_L_law 20 = .ok (.iconst 0, 1) := by decide +kernel
theorem d_L_law_21 : decode b_L_law 21 = .ok (.istore 4, 2) := by decide +kernel
theorem d_L_law_23 : decode b_L_law 23 = .ok (.iload 4, 2) := by decide +kernel
theorem d_L_law_25 : decode b_L_law 25 = .ok (.aload_n 0, 1) := by decide +kernel
theorem d_L_law_26 : decode b_L_law 26 = .ok (.arraylength, 1) := by decide +kernel
theorem d_L_law_27 : decode b_L_law 27 = .ok (.iconst 5, 1) := by decide +kernel
theorem d_L_law_28 : decode b_L_law 28 = .ok (.isub, 1) := by decide +kernel
theorem d_L_law_29 : decode b_L_law 29 = .ok (.if_icmp .gt 419, 3) := by decide +kernel
theorem d_L_law_32 : decode b_L_law 32 = .ok (.aload_n 0, 1) := by decide +kernel
theorem d_L_law_33 : decode b_L_law 33 = .ok (.iload 4, 2) := by decide +kernel
theorem d_L_law_35 : decode b_L_law 35 = .ok (.iaload, 1) := by decide +kernel
theorem d_L_law_36 : decode b_L_law 36 = .ok (.bipush 7, 2) := by decide +kernel
theorem d_L_law_38 : decode b_L_law 38 = .ok (.iand, 1) := by decide +kernel
theorem d_L_law_39 : decode b_L_law 39 = .ok (.tableswitch 403 0 7 #[45, 114, 195, 208, 221, 296, 365, 378], 45) := by decide +kernel
theorem d_L_law_84 : decode b_L_law 84 = .ok (.aload_n 1, 1) := by decide +kernel
theorem d_L_law_85 : decode b_L_law 85 = .ok (.aload_n 0, 1) := by decide +kernel
theorem d_L_law_86 : decode b_L_law 86 = .ok (.iload 4, 2) := by decide +kernel
theorem d_L_law_88 : decode b_L_law 88 = .ok (.iconst 1, 1) := by decide +kernel
theorem d_L_law_89 : decode b_L_law 89 = .ok (.iadd, 1) := by decide +kernel
theorem d_L_law_90 : decode b_L_law 90 = .ok (.iaload, 1) := by decide +kernel
theorem d_L_law_91 : decode b_L_law 91 = .ok (.i2l, 1) := by decide +kernel
theorem d_L_law_92 : decode b_L_law 92 = .ok (.bipush 32, 2) := by decide +kernel
theorem d_L_law_94 : decode b_L_law 94 = .ok (.lshl, 1) := by decide +kernel
theorem d_L_law_95 : decode b_L_law 95 = .ok (.aload_n 0, 1) := by decide +kernel
theorem d_L_law_96 : decode b_L_law 96 = .ok (.iload 4, 2) := by decide +kernel
theorem d_L_law_98 : decode b_L_law 98 = .ok (.iconst 2, 1) := by decide +kernel
theorem d_L_law_99 : decode b_L_law 99 = .ok (.iadd, 1) := by decide +kernel
theorem d_L_law_100 : decode b_L_law 100 = .ok (.iaload, 1) := by decide +kernel
theorem d_L_law_101 : decode b_L_law 101 = .ok (.i2l, 1) := by decide +kernel
theorem d_L_law_102 : decode b_L_law 102 = .ok (.ldc2_w 19, 3) := by decide +kernel
theorem d_L_law_105 : decode b_L_law 105 = .ok (.land, 1) := by decide +kernel
theorem d_L_law_106 : decode b_L_law 106 = .ok (.lor, 1) := by decide +kernel
theorem d_L_law_107 : decode b_L_law 107 = .ok (.aload_n 0, 1) := by decide +kernel
theorem d_L_law_108 : decode b_L_law 108 = .ok (.iload 4, 2) := by decide +kernel
theorem d_L_law_110 : decode b_L_law 110 = .ok (.iconst 3, 1) := by decide +kernel
theorem d_L_law_111 : decode b_L_law 111 = .ok (.iadd, 1) := by decide +kernel
theorem d_L_law_112 : decode b_L_law 112 = .ok (.iaload, 1) := by decide +kernel
theorem d_L_law_113 : decode b_L_law 113 = .ok (.invokevirtual 21, 3) := by decide +kernel
theorem d_L_law_116 : decode b_L_law 116 = .ok (.aload_n 2, 1) := by decide +kernel
theorem d_L_law_117 : decode b_L_law 117 = .ok (.aload_n 0, 1) := by decide +kernel
theorem d_L_law_118 : decode b_L_law 118 = .ok (.iload 4, 2) := by decide +kernel
theorem d_L_law_120 : decode b_L_law 120 = .ok (.iconst 1, 1) := by decide +kernel
theorem d_L_law_121 : decode b_L_law 121 = .ok (.iadd, 1) := by decide +kernel
theorem d_L_law_122 : decode b_L_law 122 = .ok (.iaload, 1) := by decide +kernel
theorem d_L_law_123 : decode b_L_law 123 = .ok (.i2l, 1) := by decide +kernel
theorem d_L_law_124 : decode b_L_law 124 = .ok (.bipush 32, 2) := by decide +kernel
theorem d_L_law_126 : decode b_L_law 126 = .ok (.lshl, 1) := by decide +kernel
theorem d_L_law_127 : decode b_L_law 127 = .ok (.aload_n 0, 1) := by decide +kernel
theorem d_L_law_128 : decode b_L_law 128 = .ok (.iload 4, 2) := by decide +kernel
theorem d_L_law_130 : decode b_L_law 130 = .ok (.iconst 2, 1) := by decide +kernel
theorem d_L_law_131 : decode b_L_law 131 = .ok (.iadd, 1) := by decide +kernel
theorem d_L_law_132 : decode b_L_law 132 = .ok (.iaload, 1) := by decide +kernel
theorem d_L_law_133 : decode b_L_law 133 = .ok (.i2l, 1) := by decide +kernel
theorem d_L_law_134 : decode b_L_law 134 = .ok (.ldc2_w 19, 3) := by decide +kernel
theorem d_L_law_137 : decode b_L_law 137 = .ok (.land, 1) := by decide +kernel
theorem d_L_law_138 : decode b_L_law 138 = .ok (.lor, 1) := by decide +kernel
theorem d_L_law_139 : decode b_L_law 139 = .ok (.aload_n 0, 1) := by decide +kernel
theorem d_L_law_140 : decode b_L_law 140 = .ok (.iload 4, 2) := by decide +kernel
theorem d_L_law_142 : decode b_L_law 142 = .ok (.iconst 3, 1) := by decide +kernel
theorem d_L_law_143 : decode b_L_law 143 = .ok (.iadd, 1) := by decide +kernel
theorem d_L_law_144 : decode b_L_law 144 = .ok (.iaload, 1) := by decide +kernel
theorem d_L_law_145 : decode b_L_law 145 = .ok (.invokevirtual 25, 3) := by decide +kernel
theorem d_L_law_148 : decode b_L_law 148 = .ok (.if_icmp .eq 294, 3) := by decide +kernel
theorem d_L_law_151 : decode b_L_law 151 = .ok (.iconst 0, 1) := by decide +kernel
theorem d_L_law_152 : decode b_L_law 152 = .ok (.ireturn, 1) := by decide +kernel
theorem d_L_law_153 : decode b_L_law 153 = .ok (.aload_n 1, 1) := by decide +kernel
theorem d_L_law_154 : decode b_L_law 154 = .ok (.aload_n 0, 1) := by decide +kernel
theorem d_L_law_155 : decode b_L_law 155 = .ok (.iload 4, 2) := by decide +kernel
theorem d_L_law_157 : decode b_L_law 157 = .ok (.iconst 1, 1) := by decide +kernel
theorem d_L_law_158 : decode b_L_law 158 = .ok (.iadd, 1) := by decide +kernel
theorem d_L_law_159 : decode b_L_law 159 = .ok (.iaload, 1) := by decide +kernel
theorem d_L_law_160 : decode b_L_law 160 = .ok (.i2l, 1) := by decide +kernel
theorem d_L_law_161 : decode b_L_law 161 = .ok (.bipush 32, 2) := by decide +kernel
theorem d_L_law_163 : decode b_L_law 163 = .ok (.lshl, 1) := by decide +kernel
theorem d_L_law_164 : decode b_L_law 164 = .ok (.aload_n 0, 1) := by decide +kernel
theorem d_L_law_165 : decode b_L_law 165 = .ok (.iload 4, 2) := by decide +kernel
theorem d_L_law_167 : decode b_L_law 167 = .ok (.iconst 2, 1) := by decide +kernel
theorem d_L_law_168 : decode b_L_law 168 = .ok (.iadd, 1) := by decide +kernel
theorem d_L_law_169 : decode b_L_law 169 = .ok (.iaload, 1) := by decide +kernel
theorem d_L_law_170 : decode b_L_law 170 = .ok (.i2l, 1) := by decide +kernel
theorem d_L_law_171 : decode b_L_law 171 = .ok (.ldc2_w 19, 3) := by decide +kernel
theorem d_L_law_174 : decode b_L_law 174 = .ok (.land, 1) := by decide +kernel
theorem d_L_law_175 : decode b_L_law 175 = .ok (.lor, 1) := by decide +kernel
theorem d_L_law_176 : decode b_L_law 176 = .ok (.aload_n 0, 1) := by decide +kernel
theorem d_L_law_177 : decode b_L_law 177 = .ok (.iload 4, 2) := by decide +kernel
theorem d_L_law_179 : decode b_L_law 179 = .ok (.iconst 3, 1) := by decide +kernel
theorem d_L_law_180 : decode b_L_law 180 = .ok (.iadd, 1) := by decide +kernel
theorem d_L_law_181 : decode b_L_law 181 = .ok (.iaload, 1) := by decide +kernel
theorem d_L_law_182 : decode b_L_law 182 = .ok (.aload_n 0, 1) := by decide +kernel
theorem d_L_law_183 : decode b_L_law 183 = .ok (.iload 4, 2) := by decide +kernel
theorem d_L_law_185 : decode b_L_law 185 = .ok (.iconst 4, 1) := by decide +kernel
theorem d_L_law_186 : decode b_L_law 186 = .ok (.iadd, 1) := by decide +kernel
theorem d_L_law_187 : decode b_L_law 187 = .ok (.iaload, 1) := by decide +kernel
theorem d_L_law_188 : decode b_L_law 188 = .ok (.invokevirtual 26, 3) := by decide +kernel
theorem d_L_law_191 : decode b_L_law 191 = .ok (.aload_n 2, 1) := by decide +kernel
theorem d_L_law_192 : decode b_L_law 192 = .ok (.aload_n 0, 1) := by decide +kernel
theorem d_L_law_193 : decode b_L_law 193 = .ok (.iload 4, 2) := by decide +kernel
theorem d_L_law_195 : decode b_L_law 195 = .ok (.iconst 1, 1) := by decide +kernel
theorem d_L_law_196 : decode b_L_law 196 = .ok (.iadd, 1) := by decide +kernel
theorem d_L_law_197 : decode b_L_law 197 = .ok (.iaload, 1) := by decide +kernel
theorem d_L_law_198 : decode b_L_law 198 = .ok (.i2l, 1) := by decide +kernel
theorem d_L_law_199 : decode b_L_law 199 = .ok (.bipush 32, 2) := by decide +kernel
theorem d_L_law_201 : decode b_L_law 201 = .ok (.lshl, 1) := by decide +kernel
theorem d_L_law_202 : decode b_L_law 202 = .ok (.aload_n 0, 1) := by decide +kernel
theorem d_L_law_203 : decode b_L_law 203 = .ok (.iload 4, 2) := by decide +kernel
theorem d_L_law_205 : decode b_L_law 205 = .ok (.iconst 2, 1) := by decide +kernel
theorem d_L_law_206 : decode b_L_law 206 = .ok (.iadd, 1) := by decide +kernel
theorem d_L_law_207 : decode b_L_law 207 = .ok (.iaload, 1) := by decide +kernel
theorem d_L_law_208 : decode b_L_law 208 = .ok (.i2l, 1) := by decide +kernel
theorem d_L_law_209 : decode b_L_law 209 = .ok (.ldc2_w 19, 3) := by decide +kernel
theorem d_L_law_212 : decode b_L_law 212 = .ok (.land, 1) := by decide +kernel
theorem d_L_law_213 : decode b_L_law 213 = .ok (.lor, 1) := by decide +kernel
theorem d_L_law_214 : decode b_L_law 214 = .ok (.aload_n 0, 1) := by decide +kernel
theorem d_L_law_215 : decode b_L_law 215 = .ok (.iload 4, 2) := by decide +kernel
theorem d_L_law_217 : decode b_L_law 217 = .ok (.iconst 3, 1) := by decide +kernel
theorem d_L_law_218 : decode b_L_law 218 = .ok (.iadd, 1) := by decide +kernel
theorem d_L_law_219 : decode b_L_law 219 = .ok (.iaload, 1) := by decide +kernel
theorem d_L_law_220 : decode b_L_law 220 = .ok (.aload_n 0, 1) := by decide +kernel
theorem d_L_law_221 : decode b_L_law 221 = .ok (.iload 4, 2) := by decide +kernel
theorem d_L_law_223 : decode b_L_law 223 = .ok (.iconst 4, 1) := by decide +kernel
theorem d_L_law_224 : decode b_L_law 224 = .ok (.iadd, 1) := by decide +kernel
theorem d_L_law_225 : decode b_L_law 225 = .ok (.iaload, 1) := by decide +kernel
theorem d_L_law_226 : decode b_L_law 226 = .ok (.invokevirtual 30, 3) := by decide +kernel
theorem d_L_law_229 : decode b_L_law 229 = .ok (.if_icmp .eq 213, 3) := by decide +kernel
theorem d_L_law_232 : decode b_L_law 232 = .ok (.iconst 0, 1) := by decide +kernel
theorem d_L_law_233 : decode b_L_law 233 = .ok (.ireturn, 1) := by decide +kernel
theorem d_L_law_234 : decode b_L_law 234 = .ok (.aload_n 1, 1) := by decide +kernel
theorem d_L_law_235 : decode b_L_law 235 = .ok (.invokevirtual 31, 3) := by decide +kernel
theorem d_L_law_238 : decode b_L_law 238 = .ok (.aload_n 2, 1) := by decide +kernel
theorem d_L_law_239 : decode b_L_law 239 = .ok (.invokevirtual 35, 3) := by decide +kernel
theorem d_L_law_242 : decode b_L_law 242 = .ok (.if_icmp .eq 200, 3) := by decide +kernel
theorem d_L_law_245 : decode b_L_law 245 = .ok (.iconst 0, 1) := by decide +kernel
theorem d_L_law_246 : decode b_L_law 246 = .ok (.ireturn, 1) := by decide +kernel
theorem d_L_law_247 : decode b_L_law 247 = .ok (.aload_n 1, 1) := by decide +kernel
theorem d_L_law_248 : decode b_L_law 248 = .ok (.invokevirtual 36, 3) := by decide +kernel
theorem d_L_law_251 : decode b_L_law 251 = .ok (.aload_n 2, 1) := by decide +kernel
theorem d_L_law_252 : decode b_L_law 252 = .ok (.invokevirtual 40, 3) := by decide +kernel
theorem d_L_law_255 : decode b_L_law 255 = .ok (.if_icmp .eq 187, 3) := by decide +kernel
theorem d_L_law_258 : decode b_L_law 258 = .ok (.iconst 0, 1) := by decide +kernel
theorem d_L_law_259 : decode b_L_law 259 = .ok (.ireturn, 1) := by decide +kernel
theorem d_L_law_260 : decode b_L_law 260 = .ok (.aload_n 1, 1) := by decide +kernel
theorem d_L_law_261 : decode b_L_law 261 = .ok (.aload_n 0, 1) := by decide +kernel
theorem d_L_law_262 : decode b_L_law 262 = .ok (.iload 4, 2) := by decide +kernel
theorem d_L_law_264 : decode b_L_law 264 = .ok (.iconst 1, 1) := by decide +kernel
theorem d_L_law_265 : decode b_L_law 265 = .ok (.iadd, 1) := by decide +kernel
theorem d_L_law_266 : decode b_L_law 266 = .ok (.iaload, 1) := by decide +kernel
theorem d_L_law_267 : decode b_L_law 267 = .ok (.aload_n 0, 1) := by decide +kernel
theorem d_L_law_268 : decode b_L_law 268 = .ok (.iload 4, 2) := by decide +kernel
theorem d_L_law_270 : decode b_L_law 270 = .ok (.iconst 2, 1) := by decide +kernel
theorem d_L_law_271 : decode b_L_law 271 = .ok (.iadd, 1) := by decide +kernel
theorem d_L_law_272 : decode b_L_law 272 = .ok (.iaload, 1) := by decide +kernel
theorem d_L_law_273 : decode b_L_law 273 = .ok (.aload_n 3, 1) := by decide +kernel
theorem d_L_law_274 : decode b_L_law 274 = .ok (.invokestatic 41, 3) := by decide +kernel
theorem d_L_law_277 : decode b_L_law 277 = .ok (.istore 5, 2) := by decide +kernel
theorem d_L_law_279 : decode b_L_law 279 = .ok (.aload_n 2, 1) := by decide +kernel
theorem d_L_law_280 : decode b_L_law 280 = .ok (.aload_n 0, 1) := by decide +kernel
theorem d_L_law_281 : decode b_L_law 281 = .ok (.iload 4, 2) := by decide +kernel
theorem d_L_law_283 : decode b_L_law 283 = .ok (.iconst 1, 1) := by decide +kernel
theorem d_L_law_284 : decode b_L_law 284 = .ok (.iadd, 1) := by decide +kernel
theorem d_L_law_285 : decode b_L_law 285 = .ok (.iaload, 1) := by decide +kernel
theorem d_L_law_286 : decode b_L_law 286 = .ok (.aload_n 0, 1) := by decide +kernel
theorem d_L_law_287 : decode b_L_law 287 = .ok (.iload 4, 2) := by decide +kernel
theorem d_L_law_289 : decode b_L_law 289 = .ok (.iconst 2, 1) := by decide +kernel
theorem d_L_law_290 : decode b_L_law 290 = .ok (.iadd, 1) := by decide +kernel
theorem d_L_law_291 : decode b_L_law 291 = .ok (.iaload, 1) := by decide +kernel
theorem d_L_law_292 : decode b_L_law 292 = .ok (.invokevirtual 46, 3) := by decide +kernel
theorem d_L_law_295 : decode b_L_law 295 = .ok (.istore 6, 2) := by decide +kernel
theorem d_L_law_297 : decode b_L_law 297 = .ok (.aload_n 2, 1) := by decide +kernel
theorem d_L_law_298 : decode b_L_law 298 = .ok (.invokevirtual 47, 3) := by decide +kernel
theorem d_L_law_301 : decode b_L_law 301 = .ok (.iload 5, 2) := by decide +kernel
theorem d_L_law_303 : decode b_L_law 303 = .ok (.if_icmp .eq 5, 3) := by decide +kernel
theorem d_L_law_306 : decode b_L_law 306 = .ok (.iconst 0, 1) := by decide +kernel
theorem d_L_law_307 : decode b_L_law 307 = .ok (.ireturn, 1) := by decide +kernel
theorem d_L_law_308 : decode b_L_law 308 = .ok (.iload 5, 2) := by decide +kernel
theorem d_L_law_310 : decode b_L_law 310 = .ok (.ifCond .ne 22, 3) := by decide +kernel
theorem d_L_law_313 : decode b_L_law 313 = .ok (.aload_n 3, 1) := by decide +kernel
theorem d_L_law_314 : decode b_L_law 314 = .ok (.iconst 0, 1) := by decide +kernel
theorem d_L_law_315 : decode b_L_law 315 = .ok (.laload, 1) := by decide +kernel
theorem d_L_law_316 : decode b_L_law 316 = .ok (.iload 6, 2) := by decide +kernel
theorem d_L_law_318 : decode b_L_law 318 = .ok (.ifCond .eq 7, 3) := by decide +kernel
theorem d_L_law_321 : decode b_L_law 321 = .ok (.lconst 1, 1) := by decide +kernel
theorem d_L_law_322 : decode b_L_law 322 = .ok (.goto 4, 3) := by decide +kernel
theorem d_L_law_325 : decode b_L_law 325 = .ok (.lconst 0, 1) := by decide +kernel
theorem d_L_law_326 : decode b_L_law 326 = .ok (.lcmp, 1) := by decide +kernel
theorem d_L_law_327 : decode b_L_law 327 = .ok (.ifCond .eq 5, 3) := by decide +kernel
theorem d_L_law_330 : decode b_L_law 330 = .ok (.iconst 0, 1) := by decide +kernel
theorem d_L_law_331 : decode b_L_law 331 = .ok (.ireturn, 1) := by decide +kernel
theorem d_L_law_332 : decode b_L_law 332 = .ok (.goto 110, 3) := by decide +kernel
theorem d_L_law_335 : decode b_L_law 335 = .ok (.aload_n 1, 1) := by decide +kernel
theorem d_L_law_336 : decode b_L_law 336 = .ok (.aload_n 0, 1) := by decide +kernel
theorem d_L_law_337 : decode b_L_law 337 = .ok (.iload 4, 2) := by decide +kernel
theorem d_L_law_339 : decode b_L_law 339 = .ok (.iconst 1, 1) := by decide +kernel
theorem d_L_law_340 : decode b_L_law 340 = .ok (.iadd, 1) := by decide +kernel
theorem d_L_law_341 : decode b_L_law 341 = .ok (.iaload, 1) := by decide +kernel
theorem d_L_law_342 : decode b_L_law 342 = .ok (.ifCond .eq 7, 3) := by decide +kernel
theorem d_L_law_345 : decode b_L_law 345 = .ok (.iconst 1, 1) := by decide +kernel
theorem d_L_law_346 : decode b_L_law 346 = .ok (.goto 4, 3) := by decide +kernel
theorem d_L_law_349 : decode b_L_law 349 = .ok (.iconst 0, 1) := by decide +kernel
theorem d_L_law_350 : decode b_L_law 350 = .ok (.aload_n 0, 1) := by decide +kernel
theorem d_L_law_351 : decode b_L_law 351 = .ok (.iload 4, 2) := by decide +kernel
theorem d_L_law_353 : decode b_L_law 353 = .ok (.iconst 2, 1) := by decide +kernel
theorem d_L_law_354 : decode b_L_law 354 = .ok (.iadd, 1) := by decide +kernel
theorem d_L_law_355 : decode b_L_law 355 = .ok (.iaload, 1) := by decide +kernel
theorem d_L_law_356 : decode b_L_law 356 = .ok (.ifCond .eq 7, 3) := by decide +kernel
theorem d_L_law_359 : decode b_L_law 359 = .ok (.iconst 1, 1) := by decide +kernel
theorem d_L_law_360 : decode b_L_law 360 = .ok (.goto 4, 3) := by decide +kernel
theorem d_L_law_363 : decode b_L_law 363 = .ok (.iconst 0, 1) := by decide +kernel
theorem d_L_law_364 : decode b_L_law 364 = .ok (.invokevirtual 50, 3) := by decide +kernel
theorem d_L_law_367 : decode b_L_law 367 = .ok (.aload_n 2, 1) := by decide +kernel
theorem d_L_law_368 : decode b_L_law 368 = .ok (.aload_n 0, 1) := by decide +kernel
theorem d_L_law_369 : decode b_L_law 369 = .ok (.iload 4, 2) := by decide +kernel
theorem d_L_law_371 : decode b_L_law 371 = .ok (.iconst 1, 1) := by decide +kernel
theorem d_L_law_372 : decode b_L_law 372 = .ok (.iadd, 1) := by decide +kernel
theorem d_L_law_373 : decode b_L_law 373 = .ok (.iaload, 1) := by decide +kernel
theorem d_L_law_374 : decode b_L_law 374 = .ok (.ifCond .eq 7, 3) := by decide +kernel
theorem d_L_law_377 : decode b_L_law 377 = .ok (.iconst 1, 1) := by decide +kernel
theorem d_L_law_378 : decode b_L_law 378 = .ok (.goto 4, 3) := by decide +kernel
theorem d_L_law_381 : decode b_L_law 381 = .ok (.iconst 0, 1) := by decide +kernel
theorem d_L_law_382 : decode b_L_law 382 = .ok (.aload_n 0, 1) := by decide +kernel
theorem d_L_law_383 : decode b_L_law 383 = .ok (.iload 4, 2) := by decide +kernel
theorem d_L_law_385 : decode b_L_law 385 = .ok (.iconst 2, 1) := by decide +kernel
theorem d_L_law_386 : decode b_L_law 386 = .ok (.iadd, 1) := by decide +kernel
theorem d_L_law_387 : decode b_L_law 387 = .ok (.iaload, 1) := by decide +kernel
theorem d_L_law_388 : decode b_L_law 388 = .ok (.ifCond .eq 7, 3) := by decide +kernel
theorem d_L_law_391 : decode b_L_law 391 = .ok (.iconst 1, 1) := by decide +kernel
theorem d_L_law_392 : decode b_L_law 392 = .ok (.goto 4, 3) := by decide +kernel
theorem d_L_law_395 : decode b_L_law 395 = .ok (.iconst 0, 1) := by decide +kernel
theorem d_L_law_396 : decode b_L_law 396 = .ok (.invokevirtual 54, 3) := by decide +kernel
theorem d_L_law_399 : decode b_L_law 399 = .ok (.if_icmp .eq 43, 3) := by decide +kernel
theorem d_L_law_402 : decode b_L_law 402 = .ok (.iconst 0, 1) := by decide +kernel
theorem d_L_law_403 : decode b_L_law 403 = .ok (.ireturn, 1) := by decide +kernel
theorem d_L_law_404 : decode b_L_law 404 = .ok (.aload_n 1, 1) := by decide +kernel
theorem d_L_law_405 : decode b_L_law 405 = .ok (.invokevirtual 55, 3) := by decide +kernel
theorem d_L_law_408 : decode b_L_law 408 = .ok (.aload_n 2, 1) := by decide +kernel
theorem d_L_law_409 : decode b_L_law 409 = .ok (.invokevirtual 58, 3) := by decide +kernel
theorem d_L_law_412 : decode b_L_law 412 = .ok (.if_icmp .eq 30, 3) := by decide +kernel
theorem d_L_law_415 : decode b_L_law 415 = .ok (.iconst 0, 1) := by decide +kernel
theorem d_L_law_416 : decode b_L_law 416 = .ok (.ireturn, 1) := by decide +kernel
theorem d_L_law_417 : decode b_L_law 417 = .ok (.aload_n 1, 1) := by decide +kernel
theorem d_L_law_418 : decode b_L_law 418 = .ok (.aload_n 0, 1) := by decide +kernel
theorem d_L_law_419 : decode b_L_law 419 = .ok (.iload 4, 2) := by decide +kernel
theorem d_L_law_421 : decode b_L_law 421 = .ok (.iconst 1, 1) := by decide +kernel
theorem d_L_law_422 : decode b_L_law 422 = .ok (.iadd, 1) := by decide +kernel
theorem d_L_law_423 : decode b_L_law 423 = .ok (.iaload, 1) := by decide +kernel
theorem d_L_law_424 : decode b_L_law 424 = .ok (.invokevirtual 59, 3) := by decide +kernel
theorem d_L_law_427 : decode b_L_law 427 = .ok (.aload_n 2, 1) := by decide +kernel
theorem d_L_law_428 : decode b_L_law 428 = .ok (.aload_n 0, 1) := by decide +kernel
theorem d_L_law_429 : decode b_L_law 429 = .ok (.iload 4, 2) := by decide +kernel
theorem d_L_law_431 : decode b_L_law 431 = .ok (.iconst 1, 1) := by decide +kernel
theorem d_L_law_432 : decode b_L_law 432 = .ok (.iadd, 1) := by decide +kernel
theorem d_L_law_433 : decode b_L_law 433 = .ok (.iaload, 1) := by decide +kernel
theorem d_L_law_434 : decode b_L_law 434 = .ok (.invokevirtual 63, 3) := by decide +kernel
theorem d_L_law_437 : decode b_L_law 437 = .ok (.if_icmp .eq 5, 3) := by decide +kernel
theorem d_L_law_440 : decode b_L_law 440 = .ok (.iconst 0, 1) := by decide +kernel
theorem d_L_law_441 : decode b_L_law 441 = .ok (.ireturn, 1) := by decide +kernel
theorem d_L_law_442 : decode b_L_law 442 = .ok (.iinc 4 5, 3) := by decide +kernel
theorem d_L_law_445 : decode b_L_law 445 = .ok (.goto (-422), 3) := by decide +kernel
theorem d_L_law_448 : decode b_L_law 448 = .ok (.iconst 1, 1) := by decide +kernel
theorem d_L_law_449 : decode b_L_law 449 = .ok (.ireturn, 1) := by decide +kernel
end
section
/-- the words that every method may use: the tables' own, where they keep -/
def wB : List Cond := lw_tbl.filter goodWord
theorem wB_tbl : ∀ w ∈ wB, w ∈ lw_tbl := fun w h => (List.mem_filter.mp h).1
theorem wB_good : ∀ w ∈ wB, goodWord w = true := fun w h => (List.mem_filter.mp h).2
theorem wB_at {w : Cond} (i : Nat) (h : lw_tbl[i]? = some w) (g : goodWord w = true) : w ∈ wB := List.mem_filter.mpr ⟨List.mem_of_getElem? h, g⟩
theorem gB {c : Cond} (h : c ∈ wB) : GoodIn wB (c :: wB) := fun w hw => (List.mem_cons.mp hw).elim (fun e => by subst e; exact ⟨h, good_of_word (wB_good _ h)⟩) (fun h2 => ⟨h2, good_of_word (wB_good _ h2)⟩)
theorem gV {own C : String} {i : Nat} {y : MethodName} {c : Cond} (h1 : Cond.methodLink own i y ∈ wB) (h2 : Cond.instanceMethod y ∈ wB) (h3 : Cond.selects C y y ∈ wB) (h4 : Cond.initialized C ∈ wB) (h5 : c ∈ wB) : GoodIn wB (wsV own i C y (c :: wB)) := by
  intro w hw
  unfold wsV at hw
  have hm : w ∈ wB := by
    rcases List.mem_append.mp hw with h | h
    · simp only [List.mem_cons, List.not_mem_nil, or_false] at h
      rcases h with rfl | rfl | rfl | rfl <;> assumption
    · exact (gB h5 w h).1
  exact ⟨hm, good_of_word (wB_good _ hm)⟩
theorem gS {own : String} {i : Nat} {y : MethodName} {c : Cond} (h1 : Cond.methodLink own i y ∈ wB) (h2 : Cond.static y ∈ wB) (h4 : Cond.initialized own ∈ wB) (h5 : c ∈ wB) : GoodIn wB (wsS own i y (c :: wB)) := by
  intro w hw
  unfold wsS at hw
  have hm : w ∈ wB := by
    rcases List.mem_append.mp hw with h | h
    · simp only [List.mem_cons, List.not_mem_nil, or_false] at h
      rcases h with rfl | rfl | rfl <;> assumption
    · exact (gB h5 w h).1
  exact ⟨hm, good_of_word (wB_good _ hm)⟩
theorem hsel_X_pieceMatches : Cond.selects R_X y_X_pieceMatches y_X_pieceMatches ∈ wB := wB_at 0 rfl (by decide +kernel)
theorem hsel_X_startOnlyAt : Cond.selects R_X y_X_startOnlyAt y_X_startOnlyAt ∈ wB := wB_at 1 rfl (by decide +kernel)
theorem hsel_X_readPattern : Cond.selects R_X y_X_readPattern y_X_readPattern ∈ wB := wB_at 2 rfl (by decide +kernel)
theorem hsel_X_closeOf : Cond.selects R_X y_X_closeOf y_X_closeOf ∈ wB := wB_at 3 rfl (by decide +kernel)
theorem hsel_X_isUnquoted : Cond.selects R_X y_X_isUnquoted y_X_isUnquoted ∈ wB := wB_at 4 rfl (by decide +kernel)
theorem hsel_X_firstMember : Cond.selects R_X y_X_firstMember y_X_firstMember ∈ wB := wB_at 5 rfl (by decide +kernel)
theorem hsel_X_takeAnyRow : Cond.selects R_X y_X_takeAnyRow y_X_takeAnyRow ∈ wB := wB_at 6 rfl (by decide +kernel)
theorem hsel_X_takeOne : Cond.selects R_X y_X_takeOne y_X_takeOne ∈ wB := wB_at 7 rfl (by decide +kernel)
theorem hsel_X_fits : Cond.selects R_X y_X_fits y_X_fits ∈ wB := wB_at 8 rfl (by decide +kernel)
theorem hsel_X_isMember : Cond.selects R_X y_X_isMember y_X_isMember ∈ wB := wB_at 9 rfl (by decide +kernel)
theorem hsel_X_matchingEnd : Cond.selects R_X y_X_matchingEnd y_X_matchingEnd ∈ wB := wB_at 10 rfl (by decide +kernel)
theorem hsel_X_startAnywhere : Cond.selects R_X y_X_startAnywhere y_X_startAnywhere ∈ wB := wB_at 11 rfl (by decide +kernel)
theorem hsel_X_matchingBeginning : Cond.selects R_X y_X_matchingBeginning y_X_matchingBeginning ∈ wB := wB_at 12 rfl (by decide +kernel)
theorem hsel_X_quotedCount : Cond.selects R_X y_X_quotedCount y_X_quotedCount ∈ wB := wB_at 13 rfl (by decide +kernel)
theorem hsel_X_setCount : Cond.selects R_X y_X_setCount y_X_setCount ∈ wB := wB_at 14 rfl (by decide +kernel)
theorem hsel_M_go : Cond.selects R_M y_M_go y_M_go ∈ wB := wB_at 16 rfl (by decide +kernel)
theorem hsel_M_closed : Cond.selects R_M y_M_closed y_M_closed ∈ wB := wB_at 17 rfl (by decide +kernel)
theorem hsel_M_is : Cond.selects R_M y_M_is y_M_is ∈ wB := wB_at 18 rfl (by decide +kernel)
theorem hsel_M_takes : Cond.selects R_M y_M_takes y_M_takes ∈ wB := wB_at 19 rfl (by decide +kernel)
theorem hsel_M_isMember : Cond.selects R_M y_M_isMember y_M_isMember ∈ wB := wB_at 20 rfl (by decide +kernel)
theorem hini_L : Cond.initialized R_L ∈ wB := wB_at 21 rfl (by decide +kernel)
theorem hini_X : Cond.initialized R_X ∈ wB := wB_at 22 rfl (by decide +kernel)
theorem hini_M : Cond.initialized R_M ∈ wB := wB_at 23 rfl (by decide +kernel)
theorem hini_Math : Cond.initialized "java/lang/Math" ∈ wB := wB_at 24 rfl (by decide +kernel)
theorem hini_Throwable : Cond.initialized "java/lang/Throwable" ∈ wB := wB_at 25 rfl (by decide +kernel)
theorem hini_Exception : Cond.initialized "java/lang/Exception" ∈ wB := wB_at 26 rfl (by decide +kernel)
theorem hini_RuntimeException : Cond.initialized "java/lang/RuntimeException" ∈ wB := wB_at 27 rfl (by decide +kernel)
theorem hini_IndexOutOfBoundsException : Cond.initialized "java/lang/IndexOutOfBoundsException" ∈ wB := wB_at 28 rfl (by decide +kernel)
theorem hcl_L_8 : Cond.classLink R_L 8 R_X ∈ wB := wB_at 29 rfl (by decide +kernel)
theorem hins_X : Cond.instantiable R_X 6 ∈ wB := wB_at 30 rfl (by decide +kernel)
theorem hml_L_15 : Cond.methodLink R_L 15 y_X_init ∈ wB := wB_at 31 rfl (by decide +kernel)
theorem hinm_X_init : Cond.instanceMethod y_X_init ∈ wB := wB_at 32 rfl (by decide +kernel)
theorem hco_X_init : Cond.code y_X_init b_X_init 1 none ∈ wB := wB_at 33 rfl (by decide +kernel)
theorem hml_X_1 : Cond.methodLink R_X 1 objectInit ∈ wB := wB_at 34 rfl (by decide +kernel)
theorem hinm_objectInit : Cond.instanceMethod objectInit ∈ wB := wB_at 35 rfl (by decide +kernel)
theorem hco_objectInit : Cond.code objectInit ⟨#[0xb1]⟩ 1 none ∈ wB := wB_at 36 rfl (by decide +kernel)
theorem hfl_X_9 : Cond.fieldLink R_X 9 "NamePattern" "textChars" "[I" ∈ wB := wB_at 37 rfl (by decide +kernel)
theorem hfl_X_13 : Cond.fieldLink R_X 13 "NamePattern" "textLength" "I" ∈ wB := wB_at 38 rfl (by decide +kernel)
theorem hfl_X_17 : Cond.fieldLink R_X 17 "NamePattern" "patternChars" "[I" ∈ wB := wB_at 39 rfl (by decide +kernel)
theorem hfl_X_20 : Cond.fieldLink R_X 20 "NamePattern" "quotedChars" "[Z" ∈ wB := wB_at 40 rfl (by decide +kernel)
theorem hfl_X_24 : Cond.fieldLink R_X 24 "NamePattern" "patternLength" "I" ∈ wB := wB_at 41 rfl (by decide +kernel)
theorem hfl_X_27 : Cond.fieldLink R_X 27 "NamePattern" "starts" "[I" ∈ wB := wB_at 42 rfl (by decide +kernel)
theorem har_int : Cond.arrayClass .int ∈ wB := wB_at 56 rfl (by decide +kernel)
theorem har_boolean : Cond.arrayClass .boolean ∈ wB := wB_at 57 rfl (by decide +kernel)
theorem hml_L_21 : Cond.methodLink R_L 21 y_X_text ∈ wB := wB_at 58 rfl (by decide +kernel)
theorem hinm_X_text : Cond.instanceMethod y_X_text ∈ wB := wB_at 59 rfl (by decide +kernel)
theorem hsel_X_text : Cond.selects R_X y_X_text y_X_text ∈ wB := wB_at 60 rfl (by decide +kernel)
theorem hco_X_text : Cond.code y_X_text b_X_text 5 (some .int) ∈ wB := wB_at 61 rfl (by decide +kernel)
theorem hml_X_30 : Cond.methodLink R_X 30 y_X_hasRoom ∈ wB := wB_at 62 rfl (by decide +kernel)
theorem hsta_X_hasRoom : Cond.static y_X_hasRoom ∈ wB := wB_at 63 rfl (by decide +kernel)
theorem hco_X_hasRoom : Cond.code y_X_hasRoom b_X_hasRoom 3 (some .boolean) ∈ wB := wB_at 64 rfl (by decide +kernel)
theorem hml_X_34 : Cond.methodLink R_X 34 y_X_byteOf ∈ wB := wB_at 65 rfl (by decide +kernel)
theorem hsta_X_byteOf : Cond.static y_X_byteOf ∈ wB := wB_at 66 rfl (by decide +kernel)
theorem hco_X_byteOf : Cond.code y_X_byteOf b_X_byteOf 4 (some .int) ∈ wB := wB_at 67 rfl (by decide +kernel)
theorem hcn_X_67 : Cond.constantLong R_X 67 255 ∈ wB := wB_at 68 rfl (by decide +kernel)
theorem hml_L_26 : Cond.methodLink R_L 26 y_X_pattern ∈ wB := wB_at 69 rfl (by decide +kernel)
theorem hinm_X_pattern : Cond.instanceMethod y_X_pattern ∈ wB := wB_at 70 rfl (by decide +kernel)
theorem hsel_X_pattern : Cond.selects R_X y_X_pattern y_X_pattern ∈ wB := wB_at 71 rfl (by decide +kernel)
theorem hco_X_pattern : Cond.code y_X_pattern b_X_pattern 6 (some .int) ∈ wB := wB_at 72 rfl (by decide +kernel)
theorem hml_L_31 : Cond.methodLink R_L 31 y_X_clear ∈ wB := wB_at 73 rfl (by decide +kernel)
theorem hinm_X_clear : Cond.instanceMethod y_X_clear ∈ wB := wB_at 74 rfl (by decide +kernel)
theorem hsel_X_clear : Cond.selects R_X y_X_clear y_X_clear ∈ wB := wB_at 75 rfl (by decide +kernel)
theorem hco_X_clear : Cond.code y_X_clear b_X_clear 2 (some .int) ∈ wB := wB_at 76 rfl (by decide +kernel)
theorem hml_L_36 : Cond.methodLink R_L 36 y_X_matches ∈ wB := wB_at 77 rfl (by decide +kernel)
theorem hinm_X_matches : Cond.instanceMethod y_X_matches ∈ wB := wB_at 78 rfl (by decide +kernel)
theorem hsel_X_matches : Cond.selects R_X y_X_matches y_X_matches ∈ wB := wB_at 79 rfl (by decide +kernel)
theorem hco_X_matches : Cond.code y_X_matches b_X_matches 1 (some .boolean) ∈ wB := wB_at 80 rfl (by decide +kernel)
theorem hml_X_38 : Cond.methodLink R_X 38 y_X_pieceMatches ∈ wB := wB_at 81 rfl (by decide +kernel)
theorem hinm_X_pieceMatches : Cond.instanceMethod y_X_pieceMatches ∈ wB := wB_at 83 rfl (by decide +kernel)
theorem hco_X_pieceMatches : Cond.code y_X_pieceMatches b_X_pieceMatches 3 (some .boolean) ∈ wB := wB_at 84 rfl (by decide +kernel)
theorem hml_X_73 : Cond.methodLink R_X 73 y_X_startOnlyAt ∈ wB := wB_at 85 rfl (by decide +kernel)
theorem hinm_X_startOnlyAt : Cond.instanceMethod y_X_startOnlyAt ∈ wB := wB_at 87 rfl (by decide +kernel)
theorem hco_X_startOnlyAt : Cond.code y_X_startOnlyAt b_X_startOnlyAt 4 none ∈ wB := wB_at 88 rfl (by decide +kernel)
theorem hml_X_77 : Cond.methodLink R_X 77 y_X_readPattern ∈ wB := wB_at 89 rfl (by decide +kernel)
theorem hinm_X_readPattern : Cond.instanceMethod y_X_readPattern ∈ wB := wB_at 91 rfl (by decide +kernel)
theorem hco_X_readPattern : Cond.code y_X_readPattern b_X_readPattern 6 none ∈ wB := wB_at 92 rfl (by decide +kernel)
theorem hml_X_69 : Cond.methodLink R_X 69 y_X_closeOf ∈ wB := wB_at 93 rfl (by decide +kernel)
theorem hinm_X_closeOf : Cond.instanceMethod y_X_closeOf ∈ wB := wB_at 95 rfl (by decide +kernel)
theorem hco_X_closeOf : Cond.code y_X_closeOf b_X_closeOf 3 (some .int) ∈ wB := wB_at 96 rfl (by decide +kernel)
theorem hml_X_56 : Cond.methodLink R_X 56 y_X_isUnquoted ∈ wB := wB_at 97 rfl (by decide +kernel)
theorem hinm_X_isUnquoted : Cond.instanceMethod y_X_isUnquoted ∈ wB := wB_at 99 rfl (by decide +kernel)
theorem hco_X_isUnquoted : Cond.code y_X_isUnquoted b_X_isUnquoted 3 (some .boolean) ∈ wB := wB_at 100 rfl (by decide +kernel)
theorem hml_X_107 : Cond.methodLink R_X 107 y_X_firstMember ∈ wB := wB_at 101 rfl (by decide +kernel)
theorem hinm_X_firstMember : Cond.instanceMethod y_X_firstMember ∈ wB := wB_at 103 rfl (by decide +kernel)
theorem hco_X_firstMember : Cond.code y_X_firstMember b_X_firstMember 2 (some .int) ∈ wB := wB_at 104 rfl (by decide +kernel)
theorem hml_X_84 : Cond.methodLink R_X 84 y_X_takeAnyRow ∈ wB := wB_at 105 rfl (by decide +kernel)
theorem hinm_X_takeAnyRow : Cond.instanceMethod y_X_takeAnyRow ∈ wB := wB_at 107 rfl (by decide +kernel)
theorem hco_X_takeAnyRow : Cond.code y_X_takeAnyRow b_X_takeAnyRow 5 none ∈ wB := wB_at 108 rfl (by decide +kernel)
theorem hml_X_97 : Cond.methodLink R_X 97 y_X_better ∈ wB := wB_at 109 rfl (by decide +kernel)
theorem hsta_X_better : Cond.static y_X_better ∈ wB := wB_at 110 rfl (by decide +kernel)
theorem hco_X_better : Cond.code y_X_better b_X_better 3 (some .int) ∈ wB := wB_at 111 rfl (by decide +kernel)
theorem hml_X_101 : Cond.methodLink R_X 101 Lib.Math.min.name ∈ wB := wB_at 112 rfl (by decide +kernel)
theorem hsta_Math_min : Cond.static Lib.Math.min.name ∈ wB := wB_at 113 rfl (by decide +kernel)
theorem hco_Math_min : Cond.code Lib.Math.min.name Lib.Math.min.code 2 (some .int) ∈ wB := wB_at 114 rfl (by decide +kernel)
theorem hml_X_91 : Cond.methodLink R_X 91 Lib.Math.max.name ∈ wB := wB_at 115 rfl (by decide +kernel)
theorem hsta_Math_max : Cond.static Lib.Math.max.name ∈ wB := wB_at 116 rfl (by decide +kernel)
theorem hco_Math_max : Cond.code Lib.Math.max.name Lib.Math.max.code 2 (some .int) ∈ wB := wB_at 117 rfl (by decide +kernel)
theorem hml_X_87 : Cond.methodLink R_X 87 y_X_takeOne ∈ wB := wB_at 118 rfl (by decide +kernel)
theorem hinm_X_takeOne : Cond.instanceMethod y_X_takeOne ∈ wB := wB_at 120 rfl (by decide +kernel)
theorem hco_X_takeOne : Cond.code y_X_takeOne b_X_takeOne 7 none ∈ wB := wB_at 121 rfl (by decide +kernel)
theorem hml_X_104 : Cond.methodLink R_X 104 y_X_fits ∈ wB := wB_at 122 rfl (by decide +kernel)
theorem hinm_X_fits : Cond.instanceMethod y_X_fits ∈ wB := wB_at 124 rfl (by decide +kernel)
theorem hco_X_fits : Cond.code y_X_fits b_X_fits 5 (some .boolean) ∈ wB := wB_at 125 rfl (by decide +kernel)
theorem hml_X_110 : Cond.methodLink R_X 110 y_X_isMember ∈ wB := wB_at 126 rfl (by decide +kernel)
theorem hinm_X_isMember : Cond.instanceMethod y_X_isMember ∈ wB := wB_at 128 rfl (by decide +kernel)
theorem hco_X_isMember : Cond.code y_X_isMember b_X_isMember 7 (some .boolean) ∈ wB := wB_at 129 rfl (by decide +kernel)
theorem hml_L_50 : Cond.methodLink R_L 50 y_X_cut ∈ wB := wB_at 130 rfl (by decide +kernel)
theorem hinm_X_cut : Cond.instanceMethod y_X_cut ∈ wB := wB_at 131 rfl (by decide +kernel)
theorem hsel_X_cut : Cond.selects R_X y_X_cut y_X_cut ∈ wB := wB_at 132 rfl (by decide +kernel)
theorem hco_X_cut : Cond.code y_X_cut b_X_cut 3 (some .int) ∈ wB := wB_at 133 rfl (by decide +kernel)
theorem hml_X_49 : Cond.methodLink R_X 49 y_X_matchingEnd ∈ wB := wB_at 134 rfl (by decide +kernel)
theorem hinm_X_matchingEnd : Cond.instanceMethod y_X_matchingEnd ∈ wB := wB_at 136 rfl (by decide +kernel)
theorem hco_X_matchingEnd : Cond.code y_X_matchingEnd b_X_matchingEnd 3 (some .int) ∈ wB := wB_at 137 rfl (by decide +kernel)
theorem hml_X_81 : Cond.methodLink R_X 81 y_X_startAnywhere ∈ wB := wB_at 138 rfl (by decide +kernel)
theorem hinm_X_startAnywhere : Cond.instanceMethod y_X_startAnywhere ∈ wB := wB_at 140 rfl (by decide +kernel)
theorem hco_X_startAnywhere : Cond.code y_X_startAnywhere b_X_startAnywhere 2 none ∈ wB := wB_at 141 rfl (by decide +kernel)
theorem hml_X_53 : Cond.methodLink R_X 53 y_X_matchingBeginning ∈ wB := wB_at 142 rfl (by decide +kernel)
theorem hinm_X_matchingBeginning : Cond.instanceMethod y_X_matchingBeginning ∈ wB := wB_at 144 rfl (by decide +kernel)
theorem hco_X_matchingBeginning : Cond.code y_X_matchingBeginning b_X_matchingBeginning 4 (some .int) ∈ wB := wB_at 145 rfl (by decide +kernel)
theorem hml_L_55 : Cond.methodLink R_L 55 y_X_isSpecial ∈ wB := wB_at 146 rfl (by decide +kernel)
theorem hinm_X_isSpecial : Cond.instanceMethod y_X_isSpecial ∈ wB := wB_at 147 rfl (by decide +kernel)
theorem hsel_X_isSpecial : Cond.selects R_X y_X_isSpecial y_X_isSpecial ∈ wB := wB_at 148 rfl (by decide +kernel)
theorem hco_X_isSpecial : Cond.code y_X_isSpecial b_X_isSpecial 2 (some .boolean) ∈ wB := wB_at 149 rfl (by decide +kernel)
theorem hml_L_59 : Cond.methodLink R_L 59 y_X_count ∈ wB := wB_at 150 rfl (by decide +kernel)
theorem hinm_X_count : Cond.instanceMethod y_X_count ∈ wB := wB_at 151 rfl (by decide +kernel)
theorem hsel_X_count : Cond.selects R_X y_X_count y_X_count ∈ wB := wB_at 152 rfl (by decide +kernel)
theorem hco_X_count : Cond.code y_X_count b_X_count 2 (some .int) ∈ wB := wB_at 153 rfl (by decide +kernel)
theorem hml_X_60 : Cond.methodLink R_X 60 y_X_quotedCount ∈ wB := wB_at 154 rfl (by decide +kernel)
theorem hinm_X_quotedCount : Cond.instanceMethod y_X_quotedCount ∈ wB := wB_at 156 rfl (by decide +kernel)
theorem hco_X_quotedCount : Cond.code y_X_quotedCount b_X_quotedCount 3 (some .int) ∈ wB := wB_at 157 rfl (by decide +kernel)
theorem hml_X_64 : Cond.methodLink R_X 64 y_X_setCount ∈ wB := wB_at 158 rfl (by decide +kernel)
theorem hinm_X_setCount : Cond.instanceMethod y_X_setCount ∈ wB := wB_at 160 rfl (by decide +kernel)
theorem hco_X_setCount : Cond.code y_X_setCount b_X_setCount 3 (some .int) ∈ wB := wB_at 161 rfl (by decide +kernel)
theorem hml_L_41 : Cond.methodLink R_L 41 y_L_part ∈ wB := wB_at 162 rfl (by decide +kernel)
theorem hsta_L_part : Cond.static y_L_part ∈ wB := wB_at 163 rfl (by decide +kernel)
theorem hco_L_part : Cond.codeWith y_L_part b_L_part 5 (some .int) [(0, 17, 20, 13)] ∈ wB := wB_at 164 rfl (by decide +kernel)
theorem hcl_L_13 : Cond.classLink R_L 13 "java/lang/IndexOutOfBoundsException" ∈ wB := wB_at 165 rfl (by decide +kernel)
theorem hml_L_7 : Cond.methodLink R_L 7 y_X_part ∈ wB := wB_at 166 rfl (by decide +kernel)
theorem hinm_X_part : Cond.instanceMethod y_X_part ∈ wB := wB_at 167 rfl (by decide +kernel)
theorem hsel_X_part : Cond.selects R_X y_X_part y_X_part ∈ wB := wB_at 168 rfl (by decide +kernel)
theorem hco_X_part : Cond.code y_X_part b_X_part 3 (some .boolean) ∈ wB := wB_at 169 rfl (by decide +kernel)
theorem hcl_X_42 : Cond.classLink R_X 42 "java/lang/IndexOutOfBoundsException" ∈ wB := wB_at 170 rfl (by decide +kernel)
theorem har_byte : Cond.arrayClass .byte ∈ wB := wB_at 235 rfl (by decide +kernel)
theorem hcl_L_16 : Cond.classLink R_L 16 R_M ∈ wB := wB_at 236 rfl (by decide +kernel)
theorem hins_M : Cond.instantiable R_M 8 ∈ wB := wB_at 237 rfl (by decide +kernel)
theorem hml_L_18 : Cond.methodLink R_L 18 y_M_init ∈ wB := wB_at 238 rfl (by decide +kernel)
theorem hinm_M_init : Cond.instanceMethod y_M_init ∈ wB := wB_at 239 rfl (by decide +kernel)
theorem hco_M_init : Cond.code y_M_init b_M_init 1 none ∈ wB := wB_at 240 rfl (by decide +kernel)
theorem hml_M_1 : Cond.methodLink R_M 1 objectInit ∈ wB := wB_at 241 rfl (by decide +kernel)
theorem hfl_M_26 : Cond.fieldLink R_M 26 "NamePatternModel" "code" "I" ∈ wB := wB_at 242 rfl (by decide +kernel)
theorem hfl_M_7 : Cond.fieldLink R_M 7 "NamePatternModel" "text" "[I" ∈ wB := wB_at 243 rfl (by decide +kernel)
theorem hfl_M_13 : Cond.fieldLink R_M 13 "NamePatternModel" "pattern" "[I" ∈ wB := wB_at 244 rfl (by decide +kernel)
theorem hfl_M_16 : Cond.fieldLink R_M 16 "NamePatternModel" "quoted" "[Z" ∈ wB := wB_at 245 rfl (by decide +kernel)
theorem hfl_M_30 : Cond.fieldLink R_M 30 "NamePatternModel" "size" "I" ∈ wB := wB_at 246 rfl (by decide +kernel)
theorem hfl_M_35 : Cond.fieldLink R_M 35 "NamePatternModel" "many" "I" ∈ wB := wB_at 247 rfl (by decide +kernel)
theorem hfl_M_20 : Cond.fieldLink R_M 20 "NamePatternModel" "at" "[Z" ∈ wB := wB_at 248 rfl (by decide +kernel)
theorem hfl_M_23 : Cond.fieldLink R_M 23 "NamePatternModel" "next" "[Z" ∈ wB := wB_at 249 rfl (by decide +kernel)
theorem hml_L_47 : Cond.methodLink R_L 47 y_M_thrown ∈ wB := wB_at 267 rfl (by decide +kernel)
theorem hinm_M_thrown : Cond.instanceMethod y_M_thrown ∈ wB := wB_at 268 rfl (by decide +kernel)
theorem hsel_M_thrown : Cond.selects R_M y_M_thrown y_M_thrown ∈ wB := wB_at 269 rfl (by decide +kernel)
theorem hco_M_thrown : Cond.code y_M_thrown b_M_thrown 1 (some .int) ∈ wB := wB_at 270 rfl (by decide +kernel)
theorem hml_L_25 : Cond.methodLink R_L 25 y_M_text ∈ wB := wB_at 271 rfl (by decide +kernel)
theorem hinm_M_text : Cond.instanceMethod y_M_text ∈ wB := wB_at 272 rfl (by decide +kernel)
theorem hsel_M_text : Cond.selects R_M y_M_text y_M_text ∈ wB := wB_at 273 rfl (by decide +kernel)
theorem hco_M_text : Cond.code y_M_text b_M_text 5 (some .int) ∈ wB := wB_at 274 rfl (by decide +kernel)
theorem hcn_M_33 : Cond.constantLong R_M 33 255 ∈ wB := wB_at 275 rfl (by decide +kernel)
theorem hml_L_30 : Cond.methodLink R_L 30 y_M_pattern ∈ wB := wB_at 276 rfl (by decide +kernel)
theorem hinm_M_pattern : Cond.instanceMethod y_M_pattern ∈ wB := wB_at 277 rfl (by decide +kernel)
theorem hsel_M_pattern : Cond.selects R_M y_M_pattern y_M_pattern ∈ wB := wB_at 278 rfl (by decide +kernel)
theorem hco_M_pattern : Cond.code y_M_pattern b_M_pattern 6 (some .int) ∈ wB := wB_at 279 rfl (by decide +kernel)
theorem hml_L_35 : Cond.methodLink R_L 35 y_M_clear ∈ wB := wB_at 280 rfl (by decide +kernel)
theorem hinm_M_clear : Cond.instanceMethod y_M_clear ∈ wB := wB_at 281 rfl (by decide +kernel)
theorem hsel_M_clear : Cond.selects R_M y_M_clear y_M_clear ∈ wB := wB_at 282 rfl (by decide +kernel)
theorem hco_M_clear : Cond.code y_M_clear b_M_clear 2 (some .int) ∈ wB := wB_at 283 rfl (by decide +kernel)
theorem hml_L_40 : Cond.methodLink R_L 40 y_M_matches ∈ wB := wB_at 284 rfl (by decide +kernel)
theorem hinm_M_matches : Cond.instanceMethod y_M_matches ∈ wB := wB_at 285 rfl (by decide +kernel)
theorem hsel_M_matches : Cond.selects R_M y_M_matches y_M_matches ∈ wB := wB_at 286 rfl (by decide +kernel)
theorem hco_M_matches : Cond.code y_M_matches b_M_matches 1 (some .boolean) ∈ wB := wB_at 287 rfl (by decide +kernel)
theorem hml_M_53 : Cond.methodLink R_M 53 y_M_go ∈ wB := wB_at 288 rfl (by decide +kernel)
theorem hinm_M_go : Cond.instanceMethod y_M_go ∈ wB := wB_at 290 rfl (by decide +kernel)
theorem hco_M_go : Cond.code y_M_go b_M_go 8 none ∈ wB := wB_at 291 rfl (by decide +kernel)
theorem hml_M_46 : Cond.methodLink R_M 46 y_M_closed ∈ wB := wB_at 292 rfl (by decide +kernel)
theorem hinm_M_closed : Cond.instanceMethod y_M_closed ∈ wB := wB_at 294 rfl (by decide +kernel)
theorem hco_M_closed : Cond.code y_M_closed b_M_closed 3 (some .int) ∈ wB := wB_at 295 rfl (by decide +kernel)
theorem hml_M_38 : Cond.methodLink R_M 38 y_M_is ∈ wB := wB_at 296 rfl (by decide +kernel)
theorem hinm_M_is : Cond.instanceMethod y_M_is ∈ wB := wB_at 298 rfl (by decide +kernel)
theorem hco_M_is : Cond.code y_M_is b_M_is 3 (some .boolean) ∈ wB := wB_at 299 rfl (by decide +kernel)
theorem hml_M_50 : Cond.methodLink R_M 50 y_M_takes ∈ wB := wB_at 300 rfl (by decide +kernel)
theorem hinm_M_takes : Cond.instanceMethod y_M_takes ∈ wB := wB_at 302 rfl (by decide +kernel)
theorem hco_M_takes : Cond.code y_M_takes b_M_takes 5 (some .boolean) ∈ wB := wB_at 303 rfl (by decide +kernel)
theorem hml_M_42 : Cond.methodLink R_M 42 y_M_isMember ∈ wB := wB_at 304 rfl (by decide +kernel)
theorem hinm_M_isMember : Cond.instanceMethod y_M_isMember ∈ wB := wB_at 306 rfl (by decide +kernel)
theorem hco_M_isMember : Cond.code y_M_isMember b_M_isMember 7 (some .boolean) ∈ wB := wB_at 307 rfl (by decide +kernel)
theorem hml_L_46 : Cond.methodLink R_L 46 y_M_part ∈ wB := wB_at 308 rfl (by decide +kernel)
theorem hinm_M_part : Cond.instanceMethod y_M_part ∈ wB := wB_at 309 rfl (by decide +kernel)
theorem hsel_M_part : Cond.selects R_M y_M_part y_M_part ∈ wB := wB_at 310 rfl (by decide +kernel)
theorem hco_M_part : Cond.code y_M_part b_M_part 3 (some .boolean) ∈ wB := wB_at 311 rfl (by decide +kernel)
theorem hml_L_54 : Cond.methodLink R_L 54 y_M_cut ∈ wB := wB_at 312 rfl (by decide +kernel)
theorem hinm_M_cut : Cond.instanceMethod y_M_cut ∈ wB := wB_at 313 rfl (by decide +kernel)
theorem hsel_M_cut : Cond.selects R_M y_M_cut y_M_cut ∈ wB := wB_at 314 rfl (by decide +kernel)
theorem hco_M_cut : Cond.code y_M_cut b_M_cut 5 (some .int) ∈ wB := wB_at 315 rfl (by decide +kernel)
theorem hml_L_58 : Cond.methodLink R_L 58 y_M_isSpecial ∈ wB := wB_at 316 rfl (by decide +kernel)
theorem hinm_M_isSpecial : Cond.instanceMethod y_M_isSpecial ∈ wB := wB_at 317 rfl (by decide +kernel)
theorem hsel_M_isSpecial : Cond.selects R_M y_M_isSpecial y_M_isSpecial ∈ wB := wB_at 318 rfl (by decide +kernel)
theorem hco_M_isSpecial : Cond.code y_M_isSpecial b_M_isSpecial 3 (some .boolean) ∈ wB := wB_at 319 rfl (by decide +kernel)
theorem hml_L_63 : Cond.methodLink R_L 63 y_M_count ∈ wB := wB_at 320 rfl (by decide +kernel)
theorem hinm_M_count : Cond.instanceMethod y_M_count ∈ wB := wB_at 321 rfl (by decide +kernel)
theorem hsel_M_count : Cond.selects R_M y_M_count y_M_count ∈ wB := wB_at 322 rfl (by decide +kernel)
theorem hco_M_count : Cond.code y_M_count b_M_count 4 (some .int) ∈ wB := wB_at 323 rfl (by decide +kernel)
theorem hcn_L_19 : Cond.constantLong R_L 19 4294967295 ∈ wB := wB_at 324 rfl (by decide +kernel)
theorem har_long : Cond.arrayClass .long ∈ wB := wB_at 325 rfl (by decide +kernel)
theorem in_X : ∀ w ∈ u_ws R_X F_X 6, w ∈ wB := by decide +kernel
theorem in_M : ∀ w ∈ u_ws R_M F_M 8, w ∈ wB := by decide +kernel
end
section
/-! the pure side: what a state is, and what the pattern's signs say -/
/-- the class's cells: text, its length, pattern, quoted, its length, the row -/
abbrev wX (h0 a1 a2 a3 a4 : Nat) (cI cZ : ClassId) (tx pt qt sr : Nat → Int32) (tn pn : Nat) : va_W :=
  [(h0, .inr (0, [.ref a1, .int (nI tn), .ref a2, .ref a3, .int (nI pn), .ref a4])), (a1, .inl (cI, 400, .inl tx)), (a2, .inl (cI, 200, .inl pt)), (a3, .inl (cZ, 200, .inl qt)), (a4, .inl (cI, 401, .inl sr))]
/-- the reference's cells -/
abbrev wM (h0 a1 a2 a3 a4 a5 : Nat) (cI cZ : ClassId) (cd : Int32) (tx pt qt ar nr : Nat → Int32) (tn pn : Nat) : va_W :=
  [(h0, .inr (1, [.int cd, .ref a1, .ref a2, .ref a3, .int (nI tn), .int (nI pn), .ref a4, .ref a5])), (a1, .inl (cI, 400, .inl tx)), (a2, .inl (cI, 200, .inl pt)), (a3, .inl (cZ, 200, .inl qt)), (a4, .inl (cZ, 401, .inl ar)), (a5, .inl (cZ, 401, .inl nr))]
abbrev tyIZ (cI cZ : ClassId) : List (ClassId × FieldType) := [(cI, .int), (cZ, .boolean)]
def bI (b : Bool) : Int32 := if b then 1 else 0
def oI (o : Option Nat) : Int32 := match o with
  | none => -1
  | some k => nI k
theorem bI_t : bI true = 1 := rfl
theorem bI_f : bI false = 0 := rfl
theorem bI_z {b : Bool} : bI b = 0 ↔ b = false := by cases b <;> simp [bI] <;> decide
theorem bI_nz {b : Bool} : ¬ bI b = 0 ↔ b = true := by cases b <;> simp [bI] <;> decide
theorem bI_inj {a b : Bool} : bI a = bI b ↔ a = b := by cases a <;> cases b <;> simp [bI] <;> decide
theorem bI_nar (b : Bool) : narrow .boolean (.int (bI b)) = .int (bI b) := by cases b <;> rfl
theorem bI_vn (b : Bool) : vp_nar .boolean (bI b) = bI b := by cases b <;> rfl
theorem bI_1 {b : Bool} : bI b = 1 ↔ b = true := by cases b <;> simp [bI] <;> decide
theorem nI_ne_m1 {k : Nat} (h : k < 2 ^ 31) : ¬ nI k = -1 := by
  intro q
  have h1 := nI_toInt h
  rw [q] at h1
  have : (-1 : Int32).toInt = -1 := by decide
  omega
theorem oI_m1 {o : Option Nat} (h : ∀ k, o = some k → k < 2 ^ 31) : oI o = -1 ↔ o = none := by
  cases o with
  | none => simp [oI]
  | some k => simp [oI, nI_ne_m1 (h k rfl)]
/-- is the character at a unquoted, and c? -/
def iu (pt qt : Nat → Int32) (pn a : Nat) (c : Int32) : Bool := decide (a < pn) && (decide (qt a = 0) && decide (pt a = c))
theorem iu_t {pt qt : Nat → Int32} {pn a : Nat} {c : Int32} (h1 : a < pn) (h2 : qt a = 0) (h3 : pt a = c) : iu pt qt pn a c = true := by simp [iu, h1, h2, h3]
theorem iu_n {pt qt : Nat → Int32} {pn a : Nat} {c : Int32} (h1 : ¬ a < pn) : iu pt qt pn a c = false := by simp [iu, h1]
theorem iu_q {pt qt : Nat → Int32} {pn a : Nat} {c : Int32} (h1 : ¬ qt a = 0) : iu pt qt pn a c = false := by simp [iu, h1]
theorem iu_c {pt qt : Nat → Int32} {pn a : Nat} {c : Int32} (h1 : ¬ pt a = c) : iu pt qt pn a c = false := by simp [iu, h1]
/-- the first member of a set that begins at a -/
def fm (pt qt : Nat → Int32) (pn a : Nat) : Nat := if iu pt qt pn (a + 1) (nI 33) = true then a + 2 else a + 1
theorem fm_le (pt qt : Nat → Int32) (pn a : Nat) : a + 1 ≤ fm pt qt pn a ∧ fm pt qt pn a ≤ a + 2 := by unfold fm; split <;> omega
/-- the first unquoted ] from a on -/
def sc (pt qt : Nat → Int32) (pn : Nat) : Nat → Nat → Option Nat
  | 0, _ => none
  | f + 1, a => if a < pn then if iu pt qt pn a (nI 93) = true then some a else sc pt qt pn f (a + 1) else none
theorem sc_in {pt qt : Nat → Int32} {pn : Nat} : ∀ {f a k : Nat}, sc pt qt pn f a = some k → a ≤ k ∧ k < pn
  | 0, _, _, h => by simp [sc] at h
  | f + 1, a, k, h => by
    unfold sc at h
    split at h
    · split at h
      · cases h; omega
      · have := sc_in h; omega
    · cases h
/-- where the set that begins at a is closed -/
def cl (pt qt : Nat → Int32) (pn a : Nat) : Option Nat := if iu pt qt pn a (nI 91) = true then sc pt qt pn (pn + 1 - (fm pt qt pn a + 1)) (fm pt qt pn a + 1) else none
theorem cl_in {pt qt : Nat → Int32} {pn a k : Nat} (h : cl pt qt pn a = some k) : fm pt qt pn a < k ∧ a + 1 < k ∧ k < pn := by
  unfold cl at h
  split at h
  · have := sc_in h; have := fm_le pt qt pn a; omega
  · cases h
theorem cl_m1 {pt qt : Nat → Int32} {pn a : Nat} (hp : pn ≤ 200) : oI (cl pt qt pn a) = -1 ↔ cl pt qt pn a = none :=
  oI_m1 (fun k h => by have := cl_in h; omega)
/-- is c one of the members from a up to k? -/
def mb (pt qt : Nat → Int32) (pn k : Nat) (c : Int32) : Nat → Nat → Bool
  | 0, _ => false
  | f + 1, a => if a < k then if (decide (a + 2 < k) && iu pt qt pn (a + 1) (nI 45)) = true then (decide (pt a ≤ c) && decide (c ≤ pt (a + 2))) || mb pt qt pn k c f (a + 3) else (decide (pt a ≤ c) && decide (c ≤ pt a)) || mb pt qt pn k c f (a + 1) else false
/-- does the sign at a, closed at o, take the character c? -/
def ft (pt qt : Nat → Int32) (pn a : Nat) (o : Option Nat) (c : Int32) : Bool := match o with
  | none => iu pt qt pn a (nI 63) || decide (pt a = c)
  | some k => mb pt qt pn k c (k + 1 - fm pt qt pn a) (fm pt qt pn a) != iu pt qt pn (a + 1) (nI 33)
theorem sc_out {pt qt : Nat → Int32} {pn a : Nat} (h : pn ≤ a) : ∀ f, sc pt qt pn f a = none
  | 0 => rfl
  | f + 1 => by unfold sc; rw [if_neg (by omega)]
theorem sc_hit {pt qt : Nat → Int32} {pn a : Nat} (h : a < pn) (h2 : iu pt qt pn a (nI 93) = true) : sc pt qt pn (pn + 1 - a) a = some a := by
  rw [show pn + 1 - a = (pn - a) + 1 by omega]; unfold sc; rw [if_pos h, if_pos h2]
theorem sc_go {pt qt : Nat → Int32} {pn a : Nat} (h : a < pn) (h2 : iu pt qt pn a (nI 93) = false) : sc pt qt pn (pn + 1 - a) a = sc pt qt pn (pn + 1 - (a + 1)) (a + 1) := by
  rw [show pn + 1 - a = (pn + 1 - (a + 1)) + 1 by omega]
  conv => lhs; unfold sc
  rw [if_pos h, if_neg (by rw [h2]; decide)]
theorem mb_out {pt qt : Nat → Int32} {pn k : Nat} {c : Int32} {a : Nat} (h : k ≤ a) : ∀ f, mb pt qt pn k c f a = false
  | 0 => rfl
  | f + 1 => by unfold mb; rw [if_neg (by omega)]
/-- enough room to read on: more says no more -/
theorem mb_more {pt qt : Nat → Int32} {pn k : Nat} {c : Int32} : ∀ (f g a : Nat), k + 1 ≤ a + f → k + 1 ≤ a + g → mb pt qt pn k c f a = mb pt qt pn k c g a
  | 0, g, a, h1, _ => by rw [mb_out (by omega), mb_out (by omega)]
  | f + 1, 0, a, _, h2 => by rw [mb_out (by omega), mb_out (by omega)]
  | f + 1, g + 1, a, h1, h2 => by
    unfold mb
    split
    · split
      · rw [mb_more f g (a + 3) (by omega) (by omega)]
      · rw [mb_more f g (a + 1) (by omega) (by omega)]
    · rfl
theorem mb_rg {pt qt : Nat → Int32} {pn k : Nat} {c : Int32} {a : Nat} (h : a < k) (h1 : a + 2 < k) (h2 : iu pt qt pn (a + 1) (nI 45) = true) : mb pt qt pn k c (k + 1 - a) a = ((decide (pt a ≤ c) && decide (c ≤ pt (a + 2))) || mb pt qt pn k c (k + 1 - (a + 3)) (a + 3)) := by
  rw [show k + 1 - a = (k - a) + 1 by omega]
  conv => lhs; unfold mb
  rw [if_pos h, if_pos (by simp [h1, h2]), mb_more (k - a) (k + 1 - (a + 3)) (a + 3) (by omega) (by omega)]
theorem mb_one {pt qt : Nat → Int32} {pn k : Nat} {c : Int32} {a : Nat} (h : a < k) (h1 : ¬ (a + 2 < k ∧ iu pt qt pn (a + 1) (nI 45) = true)) : mb pt qt pn k c (k + 1 - a) a = ((decide (pt a ≤ c) && decide (c ≤ pt a)) || mb pt qt pn k c (k + 1 - (a + 1)) (a + 1)) := by
  rw [show k + 1 - a = (k - a) + 1 by omega]
  conv => lhs; unfold mb
  rw [if_pos h, if_neg (by intro q; rw [Bool.and_eq_true, decide_eq_true_eq] at q; exact h1 q), mb_more (k - a) (k + 1 - (a + 1)) (a + 1) (by omega) (by omega)]
abbrev Rm (f lo : Nat) : Room := { frames := f, cells := 0, slots := 0, locals := lo }
theorem nh1 {x lo hi : Int32} (h : x < lo) : (decide (lo ≤ x) && decide (x ≤ hi)) = false := by
  rw [decide_eq_false (Int32.not_le.mpr h)]; rfl
theorem nh2 {x lo hi : Int32} (h : hi < x) : (decide (lo ≤ x) && decide (x ≤ hi)) = false := by
  rw [decide_eq_false (p := x ≤ hi) (Int32.not_le.mpr h), Bool.and_false]
theorem nh3 {x lo hi : Int32} (h1 : ¬ x < lo) (h2 : ¬ hi < x) : (decide (lo ≤ x) && decide (x ≤ hi)) = true := by
  rw [decide_eq_true (Int32.not_lt.mp h1), decide_eq_true (Int32.not_lt.mp h2)]; rfl
theorem bne_e {A B : Bool} (h : bI A = bI B) : nI 0 = bI (A != B) := by
  have := bI_inj.mp h; subst this; cases A <;> rfl
theorem bne_n {A B : Bool} (h : ¬ bI A = bI B) : nI 1 = bI (A != B) := by
  cases A <;> cases B <;> first | rfl | exact absurd rfl h
/-- may n characters more come behind ln, up to lim? -/
def hrm (ln lim : Nat) (n : Int32) : Bool := decide (¬ n < 0) && (decide (¬ nI 8 < n) && decide (ln + n.toNatClampNeg ≤ lim))
theorem hrm_a {ln lim : Nat} {n : Int32} (h : n < 0) : hrm ln lim n = false := by simp [hrm, h]
theorem hrm_b {ln lim : Nat} {n : Int32} (h : nI 8 < n) : hrm ln lim n = false := by simp [hrm, h]
theorem hrm_j {n : Int32} (h1 : ¬ n < 0) (h2 : ¬ nI 8 < n) : ∃ j : Nat, j ≤ 8 ∧ n = nI j := nI_of2 (M := nI 8) (n := 8) (nI_toInt (by decide)) h1 (Int32.not_lt.mp h2)
theorem hrm_c {ln lim j : Nat} (hj : j ≤ 8) : hrm ln lim (nI j) = decide (ln + j ≤ lim) := by
  have h1 : ¬ nI j < 0 := nI_pos (by omega)
  have h2 : ¬ nI 8 < nI j := nI_nlt (by omega) (by decide)
  simp [hrm, h1, h2, nI_clamp (n := j) (by omega)]
theorem hrm_t {ln lim : Nat} {n : Int32} (h : hrm ln lim n = true) : ∃ j : Nat, j ≤ 8 ∧ n = nI j ∧ ln + j ≤ lim := by
  have h0 := h
  simp only [hrm, Bool.and_eq_true, decide_eq_true_eq] at h0
  obtain ⟨j, hj, rfl⟩ := hrm_j h0.1 h0.2.1
  rw [hrm_c hj, decide_eq_true_eq] at h
  exact ⟨j, hj, rfl, h⟩
/-- the byte of x that s bits lie below -/
def bu (x : Int64) (s : Nat) : Int32 := ((x.toUInt64 >>> ((nI s).toInt64.toUInt64 &&& Int64.toUInt64 63)).toInt64 &&& 255).toInt32
/-- the better of two beginnings -/
def btr (b : Bool) (o1 o2 : Option Nat) : Option Nat := match o1, o2 with
  | none, o2 => o2
  | some x, none => some x
  | some x, some y => some (if b then min x y else max x y)
theorem btr_min {x y : Nat} (hx : x < 2 ^ 31) (hy : y < 2 ^ 31) : (if nI y < nI x then nI y else nI x) = nI (min x y) := by
  by_cases h : y < x
  · rw [if_pos ((nI_ltI hy hx).mpr h), Nat.min_eq_right (by omega)]
  · rw [if_neg (mt (nI_ltI hy hx).mp h), Nat.min_eq_left (by omega)]
theorem btr_max {x y : Nat} (hx : x < 2 ^ 31) (hy : y < 2 ^ 31) : (if nI x < nI y then nI y else nI x) = nI (max x y) := by
  by_cases h : x < y
  · rw [if_pos ((nI_ltI hx hy).mpr h), Nat.max_eq_right (by omega)]
  · rw [if_neg (mt (nI_ltI hx hy).mp h), Nat.max_eq_left (by omega)]
/-- how many of the first are quoted -/
def cq (qt : Nat → Int32) : Nat → Nat
  | 0 => 0
  | i + 1 => if qt i = 0 then cq qt i else cq qt i + 1
theorem cq_le (qt : Nat → Int32) : ∀ i, cq qt i ≤ i
  | 0 => Nat.le_refl 0
  | i + 1 => by have := cq_le qt i; unfold cq; split <;> omega
/-- how many sets begin among the first -/
def cs (pt qt : Nat → Int32) (pn : Nat) : Nat → Nat
  | 0 => 0
  | i + 1 => if cl pt qt pn i = none then cs pt qt pn i else cs pt qt pn i + 1
theorem cs_le (pt qt : Nat → Int32) (pn : Nat) : ∀ i, cs pt qt pn i ≤ i
  | 0 => Nat.le_refl 0
  | i + 1 => by have := cs_le pt qt pn i; unfold cs; split <;> omega
/-- a sign -/
def sa (pt qt : Nat → Int32) (pn a : Nat) : Bool := iu pt qt pn a (nI 42) || (iu pt qt pn a (nI 63) || iu pt qt pn a (nI 91))
/-- is one of the first a sign? -/
def sp (pt qt : Nat → Int32) (pn : Nat) : Nat → Bool
  | 0 => false
  | i + 1 => sp pt qt pn i || sa pt qt pn i
theorem sp_t {pt qt : Nat → Int32} {pn i : Nat} (h : sa pt qt pn i = true) : ∀ {n}, i < n → sp pt qt pn n = true
  | 0, h2 => absurd h2 (by omega)
  | n + 1, h2 => by
    unfold sp
    by_cases e : i = n
    · subst e; rw [h, Bool.or_true]
    · rw [sp_t h (show i < n by omega)]; rfl
end
section
/-! the class: methods that only read: by wip/whole/gen/gen06.py -/
set_option maxHeartbeats 4000000 in
set_option maxRecDepth 100000 in
theorem c_X_isUnquoted (l : Launch) (dC : Nat → ClassId) (dI : Nat → Nat → Nat) (h0 a1 a2 a3 a4 : Nat) (cI cZ : ClassId) (tx pt qt sr : Nat → Int32) (tn pn : Nat) (hp : pn ≤ 200) (a : Nat) (ha : a ≤ 1000) (ch : Int32) : Met l y_X_isUnquoted (.code y_X_isUnquoted b_X_isUnquoted 3 (some .boolean) :: wB) (Rm 0 0) (va_Pc [.ref h0, .int (nI a), .int ch] (fun U => va_P (dC, dI) classes (wX h0 a1 a2 a3 a4 cI cZ tx pt qt sr tn pn) U.heap ∧ va_K (dC, dI) classes (tyIZ cI cZ) U)) (vp_Si (fun r => r = bI (iu pt qt pn a ch))) 0 0 (fun _ => False) := by
  refine Met.ofW (cc := b_X_isUnquoted) (maxL := 3) (ret := (some .boolean)) (by decide) rfl ?_
  intro p e s mm args below meth c s₁ B hml hv
  obtain ⟨rfl, hP, hK⟩ := hv
  have hx := B.exec
  have hb := B.bytes
  have hr := B.returns
  have hts := atoms_spec (ws := (.code y_X_isUnquoted b_X_isUnquoted 3 (some .boolean) :: wB)) B.pre
  have htB : ∀ w ∈ wB, w.before _ s = true := fun w h => hts w (List.mem_cons_of_mem _ h)
  have hown : s.vm.findClass R_X = some mm.cls := findClass_of_methodNamed B.named
  have hlocks := B.notSynchronized
  have hl := lv_entry ([.ref h0, .int (nI a), .int ch]) (n := 3) (Nat.le_of_ble_eq_true rfl)
  rw [lg_entry_eq]
  generalize (lg_sl ([.ref h0, .int (nI a), .int ch]) ++ List.replicate (3 - (lg_sl ([.ref h0, .int (nI a), .int ch])).length) Slot.unset).toArray = ls at hl ⊢
  have hl : lv_has ls 3 [(0, .ref h0), (1, .int (nI a)), (2, .int ch)] := hl
  refine lv_iload_n hx hb d_X_isUnquoted_0 rfl (lv_at hl 1 rfl) ?_
  refine lv_if_lt (tgt := 35) hx hb d_X_isUnquoted_1 (by decide) (fun c_1 => ?_) (fun c_1 => ?_)
  · exact absurd c_1 (nI_pos (by omega))
  · clear c_1
    refine lv_iload_n hx hb d_X_isUnquoted_4 rfl (lv_at hl 1 rfl) ?_
    refine lv_aload_n hx hb d_X_isUnquoted_5 rfl (lv_at hl 0 rfl) ?_
    refine va_get (D := (dC, dI)) (ci := 0) (v := .int (nI pn)) (C := R_X) (T := F_X) (N := 6) hx hb htB in_X hown hK hP 0 rfl rfl 4 (by decide) (htB _ hfl_X_24) (fun _ h9 => h9) rfl d_X_isUnquoted_6 ?_
    refine lv_icmp_ge (tgt := 35) hx hb d_X_isUnquoted_9 (by decide) (fun c_2 => ?_) (fun c_2 => ?_)
    · have c_2 := (nI_leI (by omega) (by omega)).mp c_2
      refine lv_iconst (v := nI 0) hx hb d_X_isUnquoted_35 (by decide) ?_
      exact W.zret (v := nI 0) hx hb hr (by rfl) (fun t ht hW => ⟨_, rfl, by first | (rw [iu_t (by omega) ‹_› ‹_›]; rfl) | (rw [iu_n (by omega)]; rfl) | (rw [iu_q ‹_›]; rfl) | (rw [iu_c ‹_›]; rfl), ht⟩) (fun q h => nomatch h) d_X_isUnquoted_36
    · have c_2 := mt (nI_leI (by omega) (by omega)).mpr c_2
      refine lv_aload_n hx hb d_X_isUnquoted_12 rfl (lv_at hl 0 rfl) ?_
      refine va_get (D := (dC, dI)) (ci := 0) (v := .ref a3) (C := R_X) (T := F_X) (N := 6) hx hb htB in_X hown hK hP 0 rfl rfl 3 (by decide) (htB _ hfl_X_20) (fun _ h9 => h9) rfl d_X_isUnquoted_13 ?_
      refine lv_iload_n hx hb d_X_isUnquoted_16 rfl (lv_at hl 1 rfl) ?_
      refine va_zald hx hb hK hP 3 1 rfl rfl (vp_in_nI (n := a) (by omega) (by decide)) d_X_isUnquoted_17 ?_
      refine lv_topi (fun v_3 ev_3 => ?_)
      obtain rfl : v_3 = qt a := ev_3.trans (by rw [nI_clamp (n := a) (by omega)])
      refine lv_if_ne (tgt := 35) hx hb d_X_isUnquoted_18 (by decide) (fun c_4 => ?_) (fun c_4 => ?_)
      · refine lv_iconst (v := nI 0) hx hb d_X_isUnquoted_35 (by decide) ?_
        exact W.zret (v := nI 0) hx hb hr (by rfl) (fun t ht hW => ⟨_, rfl, by first | (rw [iu_t (by omega) ‹_› ‹_›]; rfl) | (rw [iu_n (by omega)]; rfl) | (rw [iu_q ‹_›]; rfl) | (rw [iu_c ‹_›]; rfl), ht⟩) (fun q h => nomatch h) d_X_isUnquoted_36
      · refine lv_aload_n hx hb d_X_isUnquoted_21 rfl (lv_at hl 0 rfl) ?_
        refine va_get (D := (dC, dI)) (ci := 0) (v := .ref a2) (C := R_X) (T := F_X) (N := 6) hx hb htB in_X hown hK hP 0 rfl rfl 2 (by decide) (htB _ hfl_X_17) (fun _ h9 => h9) rfl d_X_isUnquoted_22 ?_
        refine lv_iload_n hx hb d_X_isUnquoted_25 rfl (lv_at hl 1 rfl) ?_
        refine va_iald hx hb hK hP 2 0 rfl rfl (vp_in_nI (n := a) (by omega) (by decide)) d_X_isUnquoted_26 ?_
        refine lv_topi (fun v_5 ev_5 => ?_)
        obtain rfl : v_5 = pt a := ev_5.trans (by rw [nI_clamp (n := a) (by omega)])
        refine lv_iload_n hx hb d_X_isUnquoted_27 rfl (lv_at hl 2 rfl) ?_
        refine lv_icmp_ne (tgt := 35) hx hb d_X_isUnquoted_28 (by decide) (fun c_6 => ?_) (fun c_6 => ?_)
        · refine lv_iconst (v := nI 0) hx hb d_X_isUnquoted_35 (by decide) ?_
          exact W.zret (v := nI 0) hx hb hr (by rfl) (fun t ht hW => ⟨_, rfl, by first | (rw [iu_t (by omega) ‹_› ‹_›]; rfl) | (rw [iu_n (by omega)]; rfl) | (rw [iu_q ‹_›]; rfl) | (rw [iu_c ‹_›]; rfl), ht⟩) (fun q h => nomatch h) d_X_isUnquoted_36
        · refine lv_iconst (v := nI 1) hx hb d_X_isUnquoted_31 (by decide) ?_
          refine lv_goto (tgt := 36) hx hb d_X_isUnquoted_32 (by decide) ?_
          exact W.zret (v := nI 1) hx hb hr (by rfl) (fun t ht hW => ⟨_, rfl, by first | (rw [iu_t (by omega) ‹_› ‹_›]; rfl) | (rw [iu_n (by omega)]; rfl) | (rw [iu_q ‹_›]; rfl) | (rw [iu_c ‹_›]; rfl), ht⟩) (fun q h => nomatch h) d_X_isUnquoted_36

theorem r_X_isUnquoted {p : Program} {l : Launch} {e : Env} {R : Room} {s : State} {mm : MethodId} {args : Array Value} {below : List Frame} {meth : Method} {c : Code} {H : Heap} {locs : List Loc} {cells slots : Nat} {Q : State → Prop} {cc : ByteArray} {pcn nL : Nat} {ls : Array Slot} {rest : List Value} {dC : Nat → ClassId} {dI : Nat → Nat → Nat} {h0 a1 a2 a3 a4 : Nat} {cI cZ : ClassId} {tx pt qt sr : Nat → Int32} {tn pn : Nat} (hp : pn ≤ 200) {a : Nat} (ha : a ≤ 1000) {ch : Int32} (hx : p.tables.exec = Jvm.exec) (hb : c.code = cc) (hml : c.maxLocals = nL) (hown : s.vm.findClass R_X = some mm.cls) (htB : ∀ w ∈ wB, w.before args s = true) (hK : va_K (dC, dI) classes (tyIZ cI cZ) s) (hP : va_P (dC, dI) classes (wX h0 a1 a2 a3 a4 cI cZ tx pt qt sr tn pn) H) (hls : ls.size = nL) (hre : (rest.map fun v => v.category).sum ≤ 8) (hR : 0 + 1 ≤ R.frames ∧ 8 + (3 + 11) + 0 ≤ R.locals) (hce : cells ≤ R.cells ∧ slots ≤ R.slots) (hd : decode cc pcn = .ok (.invokevirtual 56, 3)) (kk : W p l e R s mm args below meth c H locs cells slots Q (F0 mm (pcn + 3) ls (.int (bI (iu pt qt pn a ch)) :: rest))) : W p l e R s mm args below meth c H locs cells slots Q (F0 mm pcn ls (.int ch :: .int (nI a) :: .ref h0 :: rest)) := by
  refine vp_callSi (va_Run.run (va_runV (As := [.int (nI a), .int ch]) (rest := rest) ⟨hx, hb, hml, hown, htB⟩ (c_X_isUnquoted l dC dI h0 a1 a2 a3 a4 cI cZ tx pt qt sr tn pn hp a ha ch) (cwV 2 htB (gV hml_X_56 hinm_X_isUnquoted hsel_X_isUnquoted hini_X hco_X_isUnquoted) rfl rfl rfl (by decide +kernel) hR) ⟨fun a U g mk q => by obtain ⟨q0, qP, qK⟩ := q; exact ⟨q0, qP, va_K.moved (u := U) (U := U.calling g mk a) (Vm.Alike.refl U.vm) qK⟩, va_recv hK hP (ci := 0) (q0 := 0) rfl rfl, fun U hU hW => ⟨rfl, by rw [hU]; exact hP, va_K.moved hW.alike hK⟩⟩ rfl rfl hls rfl (lv_room hre) hd ⟨hce.1, hce.2⟩)) (fun r hr => ?_)
  rw [hr]; exact kk

set_option maxHeartbeats 4000000 in
set_option maxRecDepth 100000 in
theorem c_X_firstMember (l : Launch) (dC : Nat → ClassId) (dI : Nat → Nat → Nat) (h0 a1 a2 a3 a4 : Nat) (cI cZ : ClassId) (tx pt qt sr : Nat → Int32) (tn pn : Nat) (hp : pn ≤ 200) (a : Nat) (ha : a ≤ 500) : Met l y_X_firstMember (.code y_X_firstMember b_X_firstMember 2 (some .int) :: wB) (Rm 1 22) (va_Pc [.ref h0, .int (nI a)] (fun U => va_P (dC, dI) classes (wX h0 a1 a2 a3 a4 cI cZ tx pt qt sr tn pn) U.heap ∧ va_K (dC, dI) classes (tyIZ cI cZ) U)) (vp_Si (fun r => r = nI (fm pt qt pn a))) 0 0 (fun _ => False) := by
  refine Met.ofW (cc := b_X_firstMember) (maxL := 2) (ret := (some .int)) (by decide) rfl ?_
  intro p e s mm args below meth c s₁ B hml hv
  obtain ⟨rfl, hP, hK⟩ := hv
  have hx := B.exec
  have hb := B.bytes
  have hr := B.returns
  have hts := atoms_spec (ws := (.code y_X_firstMember b_X_firstMember 2 (some .int) :: wB)) B.pre
  have htB : ∀ w ∈ wB, w.before _ s = true := fun w h => hts w (List.mem_cons_of_mem _ h)
  have hown : s.vm.findClass R_X = some mm.cls := findClass_of_methodNamed B.named
  have hlocks := B.notSynchronized
  have hl := lv_entry ([.ref h0, .int (nI a)]) (n := 2) (Nat.le_of_ble_eq_true rfl)
  rw [lg_entry_eq]
  generalize (lg_sl ([.ref h0, .int (nI a)]) ++ List.replicate (2 - (lg_sl ([.ref h0, .int (nI a)])).length) Slot.unset).toArray = ls at hl ⊢
  have hl : lv_has ls 2 [(0, .ref h0), (1, .int (nI a))] := hl
  refine lv_aload_n hx hb d_X_firstMember_0 rfl (lv_at hl 0 rfl) ?_
  refine lv_iload_n hx hb d_X_firstMember_1 rfl (lv_at hl 1 rfl) ?_
  refine lv_iconst (v := nI 1) hx hb d_X_firstMember_2 (by decide) ?_
  refine lv_iadd hx hb d_X_firstMember_3 ?_
  refine lv_topi (fun v_1 ev_1 => ?_)
  obtain rfl : v_1 = nI (a + 1) := ev_1.trans (nI_add _ _)
  refine lv_bipush (v := nI 33) hx hb d_X_firstMember_4 (by decide) ?_
  refine r_X_isUnquoted hp (by omega) hx hb hml hown htB hK hP hl.1 (Nat.le_of_ble_eq_true rfl) ⟨Nat.le_of_ble_eq_true rfl, Nat.le_of_ble_eq_true rfl⟩ ⟨Nat.zero_le _, Nat.zero_le _⟩ d_X_firstMember_6 ?_
  refine lv_if_eq (tgt := 18) hx hb d_X_firstMember_9 (by decide) (fun c_2 => ?_) (fun c_2 => ?_)
  · have c_2 := bI_z.mp c_2
    refine lv_iload_n hx hb d_X_firstMember_18 rfl (lv_at hl 1 rfl) ?_
    refine lv_iconst (v := nI 1) hx hb d_X_firstMember_19 (by decide) ?_
    refine lv_iadd hx hb d_X_firstMember_20 ?_
    refine lv_topi (fun v_3 ev_3 => ?_)
    obtain rfl : v_3 = nI (a + 1) := ev_3.trans (nI_add _ _)
    exact W.iret (v := nI (a + 1)) hx hb hr (fun t ht hW => ⟨_, rfl, by unfold fm; first | rw [if_pos ‹_›] | rw [if_neg (by rw [‹iu pt qt pn (a + 1) (nI 33) = false›]; decide)], ht⟩) (fun q h => nomatch h) d_X_firstMember_21
  · have c_2 := bI_nz.mp c_2
    refine lv_iload_n hx hb d_X_firstMember_12 rfl (lv_at hl 1 rfl) ?_
    refine lv_iconst (v := nI 2) hx hb d_X_firstMember_13 (by decide) ?_
    refine lv_iadd hx hb d_X_firstMember_14 ?_
    refine lv_topi (fun v_4 ev_4 => ?_)
    obtain rfl : v_4 = nI (a + 2) := ev_4.trans (nI_add _ _)
    refine lv_goto (tgt := 21) hx hb d_X_firstMember_15 (by decide) ?_
    exact W.iret (v := nI (a + 2)) hx hb hr (fun t ht hW => ⟨_, rfl, by unfold fm; first | rw [if_pos ‹_›] | rw [if_neg (by rw [‹iu pt qt pn (a + 1) (nI 33) = false›]; decide)], ht⟩) (fun q h => nomatch h) d_X_firstMember_21

theorem r_X_firstMember {p : Program} {l : Launch} {e : Env} {R : Room} {s : State} {mm : MethodId} {args : Array Value} {below : List Frame} {meth : Method} {c : Code} {H : Heap} {locs : List Loc} {cells slots : Nat} {Q : State → Prop} {cc : ByteArray} {pcn nL : Nat} {ls : Array Slot} {rest : List Value} {dC : Nat → ClassId} {dI : Nat → Nat → Nat} {h0 a1 a2 a3 a4 : Nat} {cI cZ : ClassId} {tx pt qt sr : Nat → Int32} {tn pn : Nat} (hp : pn ≤ 200) {a : Nat} (ha : a ≤ 500) (hx : p.tables.exec = Jvm.exec) (hb : c.code = cc) (hml : c.maxLocals = nL) (hown : s.vm.findClass R_X = some mm.cls) (htB : ∀ w ∈ wB, w.before args s = true) (hK : va_K (dC, dI) classes (tyIZ cI cZ) s) (hP : va_P (dC, dI) classes (wX h0 a1 a2 a3 a4 cI cZ tx pt qt sr tn pn) H) (hls : ls.size = nL) (hre : (rest.map fun v => v.category).sum ≤ 8) (hR : 1 + 1 ≤ R.frames ∧ 8 + (2 + 11) + 22 ≤ R.locals) (hce : cells ≤ R.cells ∧ slots ≤ R.slots) (hd : decode cc pcn = .ok (.invokevirtual 107, 3)) (kk : W p l e R s mm args below meth c H locs cells slots Q (F0 mm (pcn + 3) ls (.int (nI (fm pt qt pn a)) :: rest))) : W p l e R s mm args below meth c H locs cells slots Q (F0 mm pcn ls (.int (nI a) :: .ref h0 :: rest)) := by
  refine vp_callSi (va_Run.run (va_runV (As := [.int (nI a)]) (rest := rest) ⟨hx, hb, hml, hown, htB⟩ (c_X_firstMember l dC dI h0 a1 a2 a3 a4 cI cZ tx pt qt sr tn pn hp a ha) (cwV 1 htB (gV hml_X_107 hinm_X_firstMember hsel_X_firstMember hini_X hco_X_firstMember) rfl rfl rfl (by decide +kernel) hR) ⟨fun a U g mk q => by obtain ⟨q0, qP, qK⟩ := q; exact ⟨q0, qP, va_K.moved (u := U) (U := U.calling g mk a) (Vm.Alike.refl U.vm) qK⟩, va_recv hK hP (ci := 0) (q0 := 0) rfl rfl, fun U hU hW => ⟨rfl, by rw [hU]; exact hP, va_K.moved hW.alike hK⟩⟩ rfl rfl hls rfl (lv_room hre) hd ⟨hce.1, hce.2⟩)) (fun r hr => ?_)
  rw [hr]; exact kk

set_option maxHeartbeats 4000000 in
set_option maxRecDepth 100000 in
theorem c_X_closeOf (l : Launch) (dC : Nat → ClassId) (dI : Nat → Nat → Nat) (h0 a1 a2 a3 a4 : Nat) (cI cZ : ClassId) (tx pt qt sr : Nat → Int32) (tn pn : Nat) (hp : pn ≤ 200) (a : Nat) (ha : a ≤ 500) : Met l y_X_closeOf (.code y_X_closeOf b_X_closeOf 3 (some .int) :: wB) (Rm 2 44) (va_Pc [.ref h0, .int (nI a)] (fun U => va_P (dC, dI) classes (wX h0 a1 a2 a3 a4 cI cZ tx pt qt sr tn pn) U.heap ∧ va_K (dC, dI) classes (tyIZ cI cZ) U)) (vp_Si (fun r => r = oI (cl pt qt pn a))) 0 0 (fun _ => False) := by
  refine Met.ofW (cc := b_X_closeOf) (maxL := 3) (ret := (some .int)) (by decide) rfl ?_
  intro p e s mm args below meth c s₁ B hml hv
  obtain ⟨rfl, hP, hK⟩ := hv
  have hx := B.exec
  have hb := B.bytes
  have hr := B.returns
  have hts := atoms_spec (ws := (.code y_X_closeOf b_X_closeOf 3 (some .int) :: wB)) B.pre
  have htB : ∀ w ∈ wB, w.before _ s = true := fun w h => hts w (List.mem_cons_of_mem _ h)
  have hown : s.vm.findClass R_X = some mm.cls := findClass_of_methodNamed B.named
  have hlocks := B.notSynchronized
  have hl := lv_entry ([.ref h0, .int (nI a)]) (n := 3) (Nat.le_of_ble_eq_true rfl)
  rw [lg_entry_eq]
  generalize (lg_sl ([.ref h0, .int (nI a)]) ++ List.replicate (3 - (lg_sl ([.ref h0, .int (nI a)])).length) Slot.unset).toArray = ls at hl ⊢
  have hl : lv_has ls 3 [(0, .ref h0), (1, .int (nI a))] := hl
  have loop : ∀ (n i : Nat), i ≤ 1000 → 1000 < i + n → oI (sc pt qt pn (pn + 1 - i) i) = oI (cl pt qt pn a) → ∀ ls : Array Slot, lv_has ls 3 [(2, .int (nI i)), (0, .ref h0), (1, .int (nI a))] → W p l e (Rm 2 44) s mm [.ref h0, .int (nI a)].toArray below meth c s.heap [] 0 0 (MQ below (vp_Si (fun r => r = oI (cl pt qt pn a))) [.ref h0, .int (nI a)].toArray s 0 0 (fun _ => False)) (F0 mm 20 ls []) := by
    intro n
    induction n with
    | zero => intro i h1 h2; exact absurd h2 (by omega)
    | succ n ih =>
      intro i hi hn hE ls hl
      refine lv_iload_n hx hb d_X_closeOf_20 rfl (lv_at hl 0 rfl) ?_
      refine lv_aload_n hx hb d_X_closeOf_21 rfl (lv_at hl 1 rfl) ?_
      refine va_get (D := (dC, dI)) (ci := 0) (v := .int (nI pn)) (C := R_X) (T := F_X) (N := 6) hx hb htB in_X hown hK hP 0 rfl rfl 4 (by decide) (htB _ hfl_X_24) (fun _ h9 => h9) rfl d_X_closeOf_22 ?_
      refine lv_icmp_ge (tgt := 46) hx hb d_X_closeOf_25 (by decide) (fun c_1 => ?_) (fun c_1 => ?_)
      · have c_1 := (nI_leI (by omega) (by omega)).mp c_1
        refine lv_iconst (v := -1) hx hb d_X_closeOf_46 (by decide) ?_
        exact W.iret (v := -1) hx hb hr (fun t ht hW => ⟨_, rfl, by rw [← hE, sc_out (by omega)]; rfl, ht⟩) (fun q h => nomatch h) d_X_closeOf_47
      · have c_1 := mt (nI_leI (by omega) (by omega)).mpr c_1
        refine lv_aload_n hx hb d_X_closeOf_28 rfl (lv_at hl 1 rfl) ?_
        refine lv_iload_n hx hb d_X_closeOf_29 rfl (lv_at hl 0 rfl) ?_
        refine lv_bipush (v := nI 93) hx hb d_X_closeOf_30 (by decide) ?_
        refine r_X_isUnquoted hp (by omega) hx hb hml hown htB hK hP hl.1 (Nat.le_of_ble_eq_true rfl) ⟨Nat.le_of_ble_eq_true rfl, Nat.le_of_ble_eq_true rfl⟩ ⟨Nat.zero_le _, Nat.zero_le _⟩ d_X_closeOf_32 ?_
        refine lv_if_eq (tgt := 40) hx hb d_X_closeOf_35 (by decide) (fun c_2 => ?_) (fun c_2 => ?_)
        · have c_2 := bI_z.mp c_2
          refine lv_iinc (v := nI (i + 1)) (lv' := [(2, .int (nI (i + 1))), (0, .ref h0), (1, .int (nI a))]) hx hb d_X_closeOf_40 hl (k := 0) rfl (nI_add _ 1) (by decide) rfl (fun ls hl => ?_)
          refine lv_goto (tgt := 20) hx hb d_X_closeOf_43 (by decide) ?_
          exact ih (i + 1) (by omega) (by omega) (by rw [← sc_go (a := i) (by omega) ‹_›]; exact hE) ls hl
        · have c_2 := bI_nz.mp c_2
          refine lv_iload_n hx hb d_X_closeOf_38 rfl (lv_at hl 0 rfl) ?_
          exact W.iret (v := nI i) hx hb hr (fun t ht hW => ⟨_, rfl, by rw [← hE, sc_hit (by omega) ‹_›]; rfl, ht⟩) (fun q h => nomatch h) d_X_closeOf_39
  refine lv_aload_n hx hb d_X_closeOf_0 rfl (lv_at hl 0 rfl) ?_
  refine lv_iload_n hx hb d_X_closeOf_1 rfl (lv_at hl 1 rfl) ?_
  refine lv_bipush (v := nI 91) hx hb d_X_closeOf_2 (by decide) ?_
  refine r_X_isUnquoted hp (by omega) hx hb hml hown htB hK hP hl.1 (Nat.le_of_ble_eq_true rfl) ⟨Nat.le_of_ble_eq_true rfl, Nat.le_of_ble_eq_true rfl⟩ ⟨Nat.zero_le _, Nat.zero_le _⟩ d_X_closeOf_4 ?_
  refine lv_if_ne (tgt := 12) hx hb d_X_closeOf_7 (by decide) (fun c_1 => ?_) (fun c_1 => ?_)
  · have c_1 := bI_nz.mp c_1
    refine lv_aload_n hx hb d_X_closeOf_12 rfl (lv_at hl 0 rfl) ?_
    refine lv_iload_n hx hb d_X_closeOf_13 rfl (lv_at hl 1 rfl) ?_
    refine r_X_firstMember hp (by omega) hx hb hml hown htB hK hP hl.1 (Nat.le_of_ble_eq_true rfl) ⟨Nat.le_of_ble_eq_true rfl, Nat.le_of_ble_eq_true rfl⟩ ⟨Nat.zero_le _, Nat.zero_le _⟩ d_X_closeOf_14 ?_
    refine lv_iconst (v := nI 1) hx hb d_X_closeOf_17 (by decide) ?_
    refine lv_iadd hx hb d_X_closeOf_18 ?_
    refine lv_topi (fun v_2 ev_2 => ?_)
    obtain rfl : v_2 = nI (fm pt qt pn a + 1) := ev_2.trans (nI_add _ _)
    refine lv_istore_n (lv' := [(2, .int (nI (fm pt qt pn a + 1))), (0, .ref h0), (1, .int (nI a))]) hx hb d_X_closeOf_19 rfl hl (by decide) rfl (fun ls hl => ?_)
    have hf := fm_le pt qt pn a
    exact loop 1001 (fm pt qt pn a + 1) (by omega) (by omega) (by unfold cl; rw [if_pos ‹_›]) ls hl
  · have c_1 := bI_z.mp c_1
    refine lv_iconst (v := -1) hx hb d_X_closeOf_10 (by decide) ?_
    exact W.iret (v := -1) hx hb hr (fun t ht hW => ⟨_, rfl, by unfold cl; rw [if_neg (by rw [‹iu pt qt pn a (nI 91) = false›]; decide)]; rfl, ht⟩) (fun q h => nomatch h) d_X_closeOf_11

theorem r_X_closeOf {p : Program} {l : Launch} {e : Env} {R : Room} {s : State} {mm : MethodId} {args : Array Value} {below : List Frame} {meth : Method} {c : Code} {H : Heap} {locs : List Loc} {cells slots : Nat} {Q : State → Prop} {cc : ByteArray} {pcn nL : Nat} {ls : Array Slot} {rest : List Value} {dC : Nat → ClassId} {dI : Nat → Nat → Nat} {h0 a1 a2 a3 a4 : Nat} {cI cZ : ClassId} {tx pt qt sr : Nat → Int32} {tn pn : Nat} (hp : pn ≤ 200) {a : Nat} (ha : a ≤ 500) (hx : p.tables.exec = Jvm.exec) (hb : c.code = cc) (hml : c.maxLocals = nL) (hown : s.vm.findClass R_X = some mm.cls) (htB : ∀ w ∈ wB, w.before args s = true) (hK : va_K (dC, dI) classes (tyIZ cI cZ) s) (hP : va_P (dC, dI) classes (wX h0 a1 a2 a3 a4 cI cZ tx pt qt sr tn pn) H) (hls : ls.size = nL) (hre : (rest.map fun v => v.category).sum ≤ 8) (hR : 2 + 1 ≤ R.frames ∧ 8 + (3 + 11) + 44 ≤ R.locals) (hce : cells ≤ R.cells ∧ slots ≤ R.slots) (hd : decode cc pcn = .ok (.invokevirtual 69, 3)) (kk : W p l e R s mm args below meth c H locs cells slots Q (F0 mm (pcn + 3) ls (.int (oI (cl pt qt pn a)) :: rest))) : W p l e R s mm args below meth c H locs cells slots Q (F0 mm pcn ls (.int (nI a) :: .ref h0 :: rest)) := by
  refine vp_callSi (va_Run.run (va_runV (As := [.int (nI a)]) (rest := rest) ⟨hx, hb, hml, hown, htB⟩ (c_X_closeOf l dC dI h0 a1 a2 a3 a4 cI cZ tx pt qt sr tn pn hp a ha) (cwV 1 htB (gV hml_X_69 hinm_X_closeOf hsel_X_closeOf hini_X hco_X_closeOf) rfl rfl rfl (by decide +kernel) hR) ⟨fun a U g mk q => by obtain ⟨q0, qP, qK⟩ := q; exact ⟨q0, qP, va_K.moved (u := U) (U := U.calling g mk a) (Vm.Alike.refl U.vm) qK⟩, va_recv hK hP (ci := 0) (q0 := 0) rfl rfl, fun U hU hW => ⟨rfl, by rw [hU]; exact hP, va_K.moved hW.alike hK⟩⟩ rfl rfl hls rfl (lv_room hre) hd ⟨hce.1, hce.2⟩)) (fun r hr => ?_)
  rw [hr]; exact kk
end
section
/-! the class: members, fits, small helpers: by wip/whole/gen/gen07.py -/
set_option maxHeartbeats 4000000 in
set_option maxRecDepth 100000 in
theorem c_X_isMember (l : Launch) (dC : Nat → ClassId) (dI : Nat → Nat → Nat) (h0 a1 a2 a3 a4 : Nat) (cI cZ : ClassId) (tx pt qt sr : Nat → Int32) (tn pn : Nat) (hp : pn ≤ 200) (ch : Int32) (f k : Nat) (hf : f ≤ 500) (hk : k ≤ 200) : Met l y_X_isMember (.code y_X_isMember b_X_isMember 7 (some .boolean) :: wB) (Rm 1 22) (va_Pc [.ref h0, .int ch, .int (nI f), .int (nI k)] (fun U => va_P (dC, dI) classes (wX h0 a1 a2 a3 a4 cI cZ tx pt qt sr tn pn) U.heap ∧ va_K (dC, dI) classes (tyIZ cI cZ) U)) (vp_Si (fun r => r = bI (mb pt qt pn k ch (k + 1 - f) f))) 0 0 (fun _ => False) := by
  refine Met.ofW (cc := b_X_isMember) (maxL := 7) (ret := (some .boolean)) (by decide) rfl ?_
  intro p e s mm args below meth c s₁ B hml hv
  obtain ⟨rfl, hP, hK⟩ := hv
  have hx := B.exec
  have hb := B.bytes
  have hr := B.returns
  have hts := atoms_spec (ws := (.code y_X_isMember b_X_isMember 7 (some .boolean) :: wB)) B.pre
  have htB : ∀ w ∈ wB, w.before _ s = true := fun w h => hts w (List.mem_cons_of_mem _ h)
  have hown : s.vm.findClass R_X = some mm.cls := findClass_of_methodNamed B.named
  have hlocks := B.notSynchronized
  have hl := lv_entry ([.ref h0, .int ch, .int (nI f), .int (nI k)]) (n := 7) (Nat.le_of_ble_eq_true rfl)
  rw [lg_entry_eq]
  generalize (lg_sl ([.ref h0, .int ch, .int (nI f), .int (nI k)]) ++ List.replicate (7 - (lg_sl ([.ref h0, .int ch, .int (nI f), .int (nI k)])).length) Slot.unset).toArray = ls at hl ⊢
  have hl : lv_has ls 7 [(0, .ref h0), (1, .int ch), (2, .int (nI f)), (3, .int (nI k))] := hl
  have loop : ∀ (n i : Nat), i ≤ 1000 → 1000 < i + n → mb pt qt pn k ch (k + 1 - i) i = mb pt qt pn k ch (k + 1 - f) f → ∀ ls : Array Slot, lv_has ls 7 [(4, .int (nI i)), (0, .ref h0), (1, .int ch), (2, .int (nI f)), (3, .int (nI k))] → W p l e (Rm 1 22) s mm [.ref h0, .int ch, .int (nI f), .int (nI k)].toArray below meth c s.heap [] 0 0 (MQ below (vp_Si (fun r => r = bI (mb pt qt pn k ch (k + 1 - f) f))) [.ref h0, .int ch, .int (nI f), .int (nI k)].toArray s 0 0 (fun _ => False)) (F0 mm 3 ls []) := by
    intro n
    induction n with
    | zero => intro i h1 h2; exact absurd h2 (by omega)
    | succ n ih =>
      intro i hi hn hE ls hl
      refine lv_iload hx hb d_X_isMember_3 (lv_at hl 0 rfl) ?_
      refine lv_iload_n hx hb d_X_isMember_5 rfl (lv_at hl 4 rfl) ?_
      refine lv_icmp_ge (tgt := 86) hx hb d_X_isMember_6 (by decide) (fun c_1 => ?_) (fun c_1 => ?_)
      · have c_1 := (nI_leI (by omega) (by omega)).mp c_1
        refine lv_iconst (v := nI 0) hx hb d_X_isMember_86 (by decide) ?_
        exact W.zret (v := nI 0) hx hb hr (by rfl) (fun t ht hW => ⟨_, rfl, by rw [← hE, mb_out (by omega)]; rfl, ht⟩) (fun q h => nomatch h) d_X_isMember_87
      · have c_1 := mt (nI_leI (by omega) (by omega)).mpr c_1
        refine lv_iload hx hb d_X_isMember_9 (lv_at hl 0 rfl) ?_
        refine lv_iconst (v := nI 2) hx hb d_X_isMember_11 (by decide) ?_
        refine lv_iadd hx hb d_X_isMember_12 ?_
        refine lv_topi (fun v_2 ev_2 => ?_)
        obtain rfl : v_2 = nI (i + 2) := ev_2.trans (nI_add _ _)
        refine lv_iload_n hx hb d_X_isMember_13 rfl (lv_at hl 4 rfl) ?_
        refine lv_icmp_ge (tgt := 34) hx hb d_X_isMember_14 (by decide) (fun c_3 => ?_) (fun c_3 => ?_)
        · have c_3 := (nI_leI (by omega) (by omega)).mp c_3
          refine lv_iconst (v := nI 0) hx hb d_X_isMember_34 (by decide) ?_
          refine lv_istore (lv' := [(5, .int (nI 0)), (4, .int (nI i)), (0, .ref h0), (1, .int ch), (2, .int (nI f)), (3, .int (nI k))]) hx hb d_X_isMember_35 hl (by decide) rfl (fun ls hl => ?_)
          refine lv_iload hx hb d_X_isMember_37 (lv_at hl 0 rfl) ?_
          refine lv_if_eq (tgt := 49) hx hb d_X_isMember_39 (by decide) (fun c_4 => ?_) (fun c_4 => ?_)
          · clear c_4
            refine lv_iload hx hb d_X_isMember_49 (lv_at hl 1 rfl) ?_
            refine lv_istore (lv' := [(6, .int (nI i)), (5, .int (nI 0)), (4, .int (nI i)), (0, .ref h0), (1, .int ch), (2, .int (nI f)), (3, .int (nI k))]) hx hb d_X_isMember_51 hl (by decide) rfl (fun ls hl => ?_)
            refine lv_iload_n hx hb d_X_isMember_53 rfl (lv_at hl 4 rfl) ?_
            refine lv_aload_n hx hb d_X_isMember_54 rfl (lv_at hl 3 rfl) ?_
            refine va_get (D := (dC, dI)) (ci := 0) (v := .ref a2) (C := R_X) (T := F_X) (N := 6) hx hb htB in_X hown hK hP 0 rfl rfl 2 (by decide) (htB _ hfl_X_17) (fun _ h9 => h9) rfl d_X_isMember_55 ?_
            refine lv_iload hx hb d_X_isMember_58 (lv_at hl 2 rfl) ?_
            refine va_iald hx hb hK hP 2 0 rfl rfl (vp_in_nI (n := i) (by omega) (by decide)) d_X_isMember_60 ?_
            refine lv_topi (fun v_5 ev_5 => ?_)
            obtain rfl : v_5 = pt i := ev_5.trans (by rw [nI_clamp (n := i) (by omega)])
            refine lv_icmp_lt (tgt := 77) hx hb d_X_isMember_61 (by decide) (fun c_6 => ?_) (fun c_6 => ?_)
            · refine lv_iload hx hb d_X_isMember_77 (lv_at hl 0 rfl) ?_
              refine lv_iconst (v := nI 1) hx hb d_X_isMember_79 (by decide) ?_
              refine lv_iadd hx hb d_X_isMember_80 ?_
              refine lv_topi (fun v_7 ev_7 => ?_)
              obtain rfl : v_7 = nI (i + 1) := ev_7.trans (nI_add _ _)
              refine lv_istore (lv' := [(4, .int (nI (i + 1))), (6, .int (nI i)), (5, .int (nI 0)), (0, .ref h0), (1, .int ch), (2, .int (nI f)), (3, .int (nI k))]) hx hb d_X_isMember_81 hl (by decide) rfl (fun ls hl => ?_)
              refine lv_goto (tgt := 3) hx hb d_X_isMember_83 (by decide) ?_
              exact ih (i + 1) (by omega) (by omega) (by have hE2 := hE; rw [mb_one (a := i) (by omega) (by rintro ⟨q1, q2⟩; first | omega | (rw [‹iu pt qt pn (i + 1) (nI 45) = false›] at q2; exact absurd q2 (by decide))), (by first | exact nh1 ‹_› | exact nh2 ‹_› : (decide (pt i ≤ ch) && decide (ch ≤ pt (i))) = false), Bool.false_or] at hE2; exact hE2) ls (lv_sub hl [0, 3, 4, 5, 6] rfl)
            · refine lv_iload_n hx hb d_X_isMember_64 rfl (lv_at hl 4 rfl) ?_
              refine lv_aload_n hx hb d_X_isMember_65 rfl (lv_at hl 3 rfl) ?_
              refine va_get (D := (dC, dI)) (ci := 0) (v := .ref a2) (C := R_X) (T := F_X) (N := 6) hx hb htB in_X hown hK hP 0 rfl rfl 2 (by decide) (htB _ hfl_X_17) (fun _ h9 => h9) rfl d_X_isMember_66 ?_
              refine lv_iload hx hb d_X_isMember_69 (lv_at hl 0 rfl) ?_
              refine va_iald hx hb hK hP 2 0 rfl rfl (vp_in_nI (n := i) (by omega) (by decide)) d_X_isMember_71 ?_
              refine lv_topi (fun v_8 ev_8 => ?_)
              obtain rfl : v_8 = pt i := ev_8.trans (by rw [nI_clamp (n := i) (by omega)])
              refine lv_icmp_gt (tgt := 77) hx hb d_X_isMember_72 (by decide) (fun c_9 => ?_) (fun c_9 => ?_)
              · refine lv_iload hx hb d_X_isMember_77 (lv_at hl 0 rfl) ?_
                refine lv_iconst (v := nI 1) hx hb d_X_isMember_79 (by decide) ?_
                refine lv_iadd hx hb d_X_isMember_80 ?_
                refine lv_topi (fun v_10 ev_10 => ?_)
                obtain rfl : v_10 = nI (i + 1) := ev_10.trans (nI_add _ _)
                refine lv_istore (lv' := [(4, .int (nI (i + 1))), (6, .int (nI i)), (5, .int (nI 0)), (0, .ref h0), (1, .int ch), (2, .int (nI f)), (3, .int (nI k))]) hx hb d_X_isMember_81 hl (by decide) rfl (fun ls hl => ?_)
                refine lv_goto (tgt := 3) hx hb d_X_isMember_83 (by decide) ?_
                exact ih (i + 1) (by omega) (by omega) (by have hE2 := hE; rw [mb_one (a := i) (by omega) (by rintro ⟨q1, q2⟩; first | omega | (rw [‹iu pt qt pn (i + 1) (nI 45) = false›] at q2; exact absurd q2 (by decide))), (by first | exact nh1 ‹_› | exact nh2 ‹_› : (decide (pt i ≤ ch) && decide (ch ≤ pt (i))) = false), Bool.false_or] at hE2; exact hE2) ls (lv_sub hl [0, 3, 4, 5, 6] rfl)
              · refine lv_iconst (v := nI 1) hx hb d_X_isMember_75 (by decide) ?_
                exact W.zret (v := nI 1) hx hb hr (by rfl) (fun t ht hW => ⟨_, rfl, by rw [← hE, mb_one (a := i) (by omega) (by rintro ⟨q1, q2⟩; first | omega | (rw [‹iu pt qt pn (i + 1) (nI 45) = false›] at q2; exact absurd q2 (by decide))), nh3 ‹_› ‹_›]; rfl, ht⟩) (fun q h => nomatch h) d_X_isMember_76
          · exact absurd c_4 (by decide)
        · have c_3 := mt (nI_leI (by omega) (by omega)).mpr c_3
          refine lv_aload_n hx hb d_X_isMember_17 rfl (lv_at hl 1 rfl) ?_
          refine lv_iload hx hb d_X_isMember_18 (lv_at hl 0 rfl) ?_
          refine lv_iconst (v := nI 1) hx hb d_X_isMember_20 (by decide) ?_
          refine lv_iadd hx hb d_X_isMember_21 ?_
          refine lv_topi (fun v_11 ev_11 => ?_)
          obtain rfl : v_11 = nI (i + 1) := ev_11.trans (nI_add _ _)
          refine lv_bipush (v := nI 45) hx hb d_X_isMember_22 (by decide) ?_
          refine r_X_isUnquoted hp (by omega) hx hb hml hown htB hK hP hl.1 (Nat.le_of_ble_eq_true rfl) ⟨Nat.le_of_ble_eq_true rfl, Nat.le_of_ble_eq_true rfl⟩ ⟨Nat.zero_le _, Nat.zero_le _⟩ d_X_isMember_24 ?_
          refine lv_if_eq (tgt := 34) hx hb d_X_isMember_27 (by decide) (fun c_12 => ?_) (fun c_12 => ?_)
          · have c_12 := bI_z.mp c_12
            refine lv_iconst (v := nI 0) hx hb d_X_isMember_34 (by decide) ?_
            refine lv_istore (lv' := [(5, .int (nI 0)), (4, .int (nI i)), (0, .ref h0), (1, .int ch), (2, .int (nI f)), (3, .int (nI k))]) hx hb d_X_isMember_35 hl (by decide) rfl (fun ls hl => ?_)
            refine lv_iload hx hb d_X_isMember_37 (lv_at hl 0 rfl) ?_
            refine lv_if_eq (tgt := 49) hx hb d_X_isMember_39 (by decide) (fun c_13 => ?_) (fun c_13 => ?_)
            · clear c_13
              refine lv_iload hx hb d_X_isMember_49 (lv_at hl 1 rfl) ?_
              refine lv_istore (lv' := [(6, .int (nI i)), (5, .int (nI 0)), (4, .int (nI i)), (0, .ref h0), (1, .int ch), (2, .int (nI f)), (3, .int (nI k))]) hx hb d_X_isMember_51 hl (by decide) rfl (fun ls hl => ?_)
              refine lv_iload_n hx hb d_X_isMember_53 rfl (lv_at hl 4 rfl) ?_
              refine lv_aload_n hx hb d_X_isMember_54 rfl (lv_at hl 3 rfl) ?_
              refine va_get (D := (dC, dI)) (ci := 0) (v := .ref a2) (C := R_X) (T := F_X) (N := 6) hx hb htB in_X hown hK hP 0 rfl rfl 2 (by decide) (htB _ hfl_X_17) (fun _ h9 => h9) rfl d_X_isMember_55 ?_
              refine lv_iload hx hb d_X_isMember_58 (lv_at hl 2 rfl) ?_
              refine va_iald hx hb hK hP 2 0 rfl rfl (vp_in_nI (n := i) (by omega) (by decide)) d_X_isMember_60 ?_
              refine lv_topi (fun v_14 ev_14 => ?_)
              obtain rfl : v_14 = pt i := ev_14.trans (by rw [nI_clamp (n := i) (by omega)])
              refine lv_icmp_lt (tgt := 77) hx hb d_X_isMember_61 (by decide) (fun c_15 => ?_) (fun c_15 => ?_)
              · refine lv_iload hx hb d_X_isMember_77 (lv_at hl 0 rfl) ?_
                refine lv_iconst (v := nI 1) hx hb d_X_isMember_79 (by decide) ?_
                refine lv_iadd hx hb d_X_isMember_80 ?_
                refine lv_topi (fun v_16 ev_16 => ?_)
                obtain rfl : v_16 = nI (i + 1) := ev_16.trans (nI_add _ _)
                refine lv_istore (lv' := [(4, .int (nI (i + 1))), (6, .int (nI i)), (5, .int (nI 0)), (0, .ref h0), (1, .int ch), (2, .int (nI f)), (3, .int (nI k))]) hx hb d_X_isMember_81 hl (by decide) rfl (fun ls hl => ?_)
                refine lv_goto (tgt := 3) hx hb d_X_isMember_83 (by decide) ?_
                exact ih (i + 1) (by omega) (by omega) (by have hE2 := hE; rw [mb_one (a := i) (by omega) (by rintro ⟨q1, q2⟩; first | omega | (rw [‹iu pt qt pn (i + 1) (nI 45) = false›] at q2; exact absurd q2 (by decide))), (by first | exact nh1 ‹_› | exact nh2 ‹_› : (decide (pt i ≤ ch) && decide (ch ≤ pt (i))) = false), Bool.false_or] at hE2; exact hE2) ls (lv_sub hl [0, 3, 4, 5, 6] rfl)
              · refine lv_iload_n hx hb d_X_isMember_64 rfl (lv_at hl 4 rfl) ?_
                refine lv_aload_n hx hb d_X_isMember_65 rfl (lv_at hl 3 rfl) ?_
                refine va_get (D := (dC, dI)) (ci := 0) (v := .ref a2) (C := R_X) (T := F_X) (N := 6) hx hb htB in_X hown hK hP 0 rfl rfl 2 (by decide) (htB _ hfl_X_17) (fun _ h9 => h9) rfl d_X_isMember_66 ?_
                refine lv_iload hx hb d_X_isMember_69 (lv_at hl 0 rfl) ?_
                refine va_iald hx hb hK hP 2 0 rfl rfl (vp_in_nI (n := i) (by omega) (by decide)) d_X_isMember_71 ?_
                refine lv_topi (fun v_17 ev_17 => ?_)
                obtain rfl : v_17 = pt i := ev_17.trans (by rw [nI_clamp (n := i) (by omega)])
                refine lv_icmp_gt (tgt := 77) hx hb d_X_isMember_72 (by decide) (fun c_18 => ?_) (fun c_18 => ?_)
                · refine lv_iload hx hb d_X_isMember_77 (lv_at hl 0 rfl) ?_
                  refine lv_iconst (v := nI 1) hx hb d_X_isMember_79 (by decide) ?_
                  refine lv_iadd hx hb d_X_isMember_80 ?_
                  refine lv_topi (fun v_19 ev_19 => ?_)
                  obtain rfl : v_19 = nI (i + 1) := ev_19.trans (nI_add _ _)
                  refine lv_istore (lv' := [(4, .int (nI (i + 1))), (6, .int (nI i)), (5, .int (nI 0)), (0, .ref h0), (1, .int ch), (2, .int (nI f)), (3, .int (nI k))]) hx hb d_X_isMember_81 hl (by decide) rfl (fun ls hl => ?_)
                  refine lv_goto (tgt := 3) hx hb d_X_isMember_83 (by decide) ?_
                  exact ih (i + 1) (by omega) (by omega) (by have hE2 := hE; rw [mb_one (a := i) (by omega) (by rintro ⟨q1, q2⟩; first | omega | (rw [‹iu pt qt pn (i + 1) (nI 45) = false›] at q2; exact absurd q2 (by decide))), (by first | exact nh1 ‹_› | exact nh2 ‹_› : (decide (pt i ≤ ch) && decide (ch ≤ pt (i))) = false), Bool.false_or] at hE2; exact hE2) ls (lv_sub hl [0, 3, 4, 5, 6] rfl)
                · refine lv_iconst (v := nI 1) hx hb d_X_isMember_75 (by decide) ?_
                  exact W.zret (v := nI 1) hx hb hr (by rfl) (fun t ht hW => ⟨_, rfl, by rw [← hE, mb_one (a := i) (by omega) (by rintro ⟨q1, q2⟩; first | omega | (rw [‹iu pt qt pn (i + 1) (nI 45) = false›] at q2; exact absurd q2 (by decide))), nh3 ‹_› ‹_›]; rfl, ht⟩) (fun q h => nomatch h) d_X_isMember_76
            · exact absurd c_13 (by decide)
          · have c_12 := bI_nz.mp c_12
            refine lv_iconst (v := nI 1) hx hb d_X_isMember_30 (by decide) ?_
            refine lv_goto (tgt := 35) hx hb d_X_isMember_31 (by decide) ?_
            refine lv_istore (lv' := [(5, .int (nI 1)), (4, .int (nI i)), (0, .ref h0), (1, .int ch), (2, .int (nI f)), (3, .int (nI k))]) hx hb d_X_isMember_35 hl (by decide) rfl (fun ls hl => ?_)
            refine lv_iload hx hb d_X_isMember_37 (lv_at hl 0 rfl) ?_
            refine lv_if_eq (tgt := 49) hx hb d_X_isMember_39 (by decide) (fun c_20 => ?_) (fun c_20 => ?_)
            · exact absurd c_20 (by decide)
            · clear c_20
              refine lv_iload hx hb d_X_isMember_42 (lv_at hl 1 rfl) ?_
              refine lv_iconst (v := nI 2) hx hb d_X_isMember_44 (by decide) ?_
              refine lv_iadd hx hb d_X_isMember_45 ?_
              refine lv_topi (fun v_21 ev_21 => ?_)
              obtain rfl : v_21 = nI (i + 2) := ev_21.trans (nI_add _ _)
              refine lv_goto (tgt := 51) hx hb d_X_isMember_46 (by decide) ?_
              refine lv_istore (lv' := [(6, .int (nI (i + 2))), (5, .int (nI 1)), (4, .int (nI i)), (0, .ref h0), (1, .int ch), (2, .int (nI f)), (3, .int (nI k))]) hx hb d_X_isMember_51 hl (by decide) rfl (fun ls hl => ?_)
              refine lv_iload_n hx hb d_X_isMember_53 rfl (lv_at hl 4 rfl) ?_
              refine lv_aload_n hx hb d_X_isMember_54 rfl (lv_at hl 3 rfl) ?_
              refine va_get (D := (dC, dI)) (ci := 0) (v := .ref a2) (C := R_X) (T := F_X) (N := 6) hx hb htB in_X hown hK hP 0 rfl rfl 2 (by decide) (htB _ hfl_X_17) (fun _ h9 => h9) rfl d_X_isMember_55 ?_
              refine lv_iload hx hb d_X_isMember_58 (lv_at hl 2 rfl) ?_
              refine va_iald hx hb hK hP 2 0 rfl rfl (vp_in_nI (n := i) (by omega) (by decide)) d_X_isMember_60 ?_
              refine lv_topi (fun v_22 ev_22 => ?_)
              obtain rfl : v_22 = pt i := ev_22.trans (by rw [nI_clamp (n := i) (by omega)])
              refine lv_icmp_lt (tgt := 77) hx hb d_X_isMember_61 (by decide) (fun c_23 => ?_) (fun c_23 => ?_)
              · refine lv_iload hx hb d_X_isMember_77 (lv_at hl 0 rfl) ?_
                refine lv_iconst (v := nI 1) hx hb d_X_isMember_79 (by decide) ?_
                refine lv_iadd hx hb d_X_isMember_80 ?_
                refine lv_topi (fun v_24 ev_24 => ?_)
                obtain rfl : v_24 = nI (i + 2 + 1) := ev_24.trans (nI_add _ _)
                refine lv_istore (lv' := [(4, .int (nI (i + 2 + 1))), (6, .int (nI (i + 2))), (5, .int (nI 1)), (0, .ref h0), (1, .int ch), (2, .int (nI f)), (3, .int (nI k))]) hx hb d_X_isMember_81 hl (by decide) rfl (fun ls hl => ?_)
                refine lv_goto (tgt := 3) hx hb d_X_isMember_83 (by decide) ?_
                exact ih (i + 3) (by omega) (by omega) (by have hE2 := hE; rw [mb_rg (a := i) (by omega) (by omega) ‹_›, (by first | exact nh1 ‹_› | exact nh2 ‹_› : (decide (pt i ≤ ch) && decide (ch ≤ pt (i + 2))) = false), Bool.false_or] at hE2; exact hE2) ls (lv_sub hl [0, 3, 4, 5, 6] rfl)
              · refine lv_iload_n hx hb d_X_isMember_64 rfl (lv_at hl 4 rfl) ?_
                refine lv_aload_n hx hb d_X_isMember_65 rfl (lv_at hl 3 rfl) ?_
                refine va_get (D := (dC, dI)) (ci := 0) (v := .ref a2) (C := R_X) (T := F_X) (N := 6) hx hb htB in_X hown hK hP 0 rfl rfl 2 (by decide) (htB _ hfl_X_17) (fun _ h9 => h9) rfl d_X_isMember_66 ?_
                refine lv_iload hx hb d_X_isMember_69 (lv_at hl 0 rfl) ?_
                refine va_iald hx hb hK hP 2 0 rfl rfl (vp_in_nI (n := i + 2) (by omega) (by decide)) d_X_isMember_71 ?_
                refine lv_topi (fun v_25 ev_25 => ?_)
                obtain rfl : v_25 = pt (i + 2) := ev_25.trans (by rw [nI_clamp (n := i + 2) (by omega)])
                refine lv_icmp_gt (tgt := 77) hx hb d_X_isMember_72 (by decide) (fun c_26 => ?_) (fun c_26 => ?_)
                · refine lv_iload hx hb d_X_isMember_77 (lv_at hl 0 rfl) ?_
                  refine lv_iconst (v := nI 1) hx hb d_X_isMember_79 (by decide) ?_
                  refine lv_iadd hx hb d_X_isMember_80 ?_
                  refine lv_topi (fun v_27 ev_27 => ?_)
                  obtain rfl : v_27 = nI (i + 2 + 1) := ev_27.trans (nI_add _ _)
                  refine lv_istore (lv' := [(4, .int (nI (i + 2 + 1))), (6, .int (nI (i + 2))), (5, .int (nI 1)), (0, .ref h0), (1, .int ch), (2, .int (nI f)), (3, .int (nI k))]) hx hb d_X_isMember_81 hl (by decide) rfl (fun ls hl => ?_)
                  refine lv_goto (tgt := 3) hx hb d_X_isMember_83 (by decide) ?_
                  exact ih (i + 3) (by omega) (by omega) (by have hE2 := hE; rw [mb_rg (a := i) (by omega) (by omega) ‹_›, (by first | exact nh1 ‹_› | exact nh2 ‹_› : (decide (pt i ≤ ch) && decide (ch ≤ pt (i + 2))) = false), Bool.false_or] at hE2; exact hE2) ls (lv_sub hl [0, 3, 4, 5, 6] rfl)
                · refine lv_iconst (v := nI 1) hx hb d_X_isMember_75 (by decide) ?_
                  exact W.zret (v := nI 1) hx hb hr (by rfl) (fun t ht hW => ⟨_, rfl, by rw [← hE, mb_rg (a := i) (by omega) (by omega) ‹_›, nh3 ‹_› ‹_›]; rfl, ht⟩) (fun q h => nomatch h) d_X_isMember_76
  refine lv_iload_n hx hb d_X_isMember_0 rfl (lv_at hl 2 rfl) ?_
  refine lv_istore (lv' := [(4, .int (nI f)), (0, .ref h0), (1, .int ch), (2, .int (nI f)), (3, .int (nI k))]) hx hb d_X_isMember_1 hl (by decide) rfl (fun ls hl => ?_)
  exact loop 1001 f (by omega) (by omega) rfl ls hl

theorem r_X_isMember {p : Program} {l : Launch} {e : Env} {R : Room} {s : State} {mm : MethodId} {args : Array Value} {below : List Frame} {meth : Method} {c : Code} {H : Heap} {locs : List Loc} {cells slots : Nat} {Q : State → Prop} {cc : ByteArray} {pcn nL : Nat} {ls : Array Slot} {rest : List Value} {dC : Nat → ClassId} {dI : Nat → Nat → Nat} {h0 a1 a2 a3 a4 : Nat} {cI cZ : ClassId} {tx pt qt sr : Nat → Int32} {tn pn : Nat} (hp : pn ≤ 200) {ch : Int32} {f k : Nat} (hf : f ≤ 500) (hk : k ≤ 200) (hx : p.tables.exec = Jvm.exec) (hb : c.code = cc) (hml : c.maxLocals = nL) (hown : s.vm.findClass R_X = some mm.cls) (htB : ∀ w ∈ wB, w.before args s = true) (hK : va_K (dC, dI) classes (tyIZ cI cZ) s) (hP : va_P (dC, dI) classes (wX h0 a1 a2 a3 a4 cI cZ tx pt qt sr tn pn) H) (hls : ls.size = nL) (hre : (rest.map fun v => v.category).sum ≤ 8) (hR : 1 + 1 ≤ R.frames ∧ 8 + (7 + 11) + 22 ≤ R.locals) (hce : cells ≤ R.cells ∧ slots ≤ R.slots) (hd : decode cc pcn = .ok (.invokevirtual 110, 3)) (kk : W p l e R s mm args below meth c H locs cells slots Q (F0 mm (pcn + 3) ls (.int (bI (mb pt qt pn k ch (k + 1 - f) f)) :: rest))) : W p l e R s mm args below meth c H locs cells slots Q (F0 mm pcn ls (.int (nI k) :: .int (nI f) :: .int ch :: .ref h0 :: rest)) := by
  refine vp_callSi (va_Run.run (va_runV (As := [.int ch, .int (nI f), .int (nI k)]) (rest := rest) ⟨hx, hb, hml, hown, htB⟩ (c_X_isMember l dC dI h0 a1 a2 a3 a4 cI cZ tx pt qt sr tn pn hp ch f k hf hk) (cwV 3 htB (gV hml_X_110 hinm_X_isMember hsel_X_isMember hini_X hco_X_isMember) rfl rfl rfl (by decide +kernel) hR) ⟨fun a U g mk q => by obtain ⟨q0, qP, qK⟩ := q; exact ⟨q0, qP, va_K.moved (u := U) (U := U.calling g mk a) (Vm.Alike.refl U.vm) qK⟩, va_recv hK hP (ci := 0) (q0 := 0) rfl rfl, fun U hU hW => ⟨rfl, by rw [hU]; exact hP, va_K.moved hW.alike hK⟩⟩ rfl rfl hls rfl (lv_room hre) hd ⟨hce.1, hce.2⟩)) (fun r hr => ?_)
  rw [hr]; exact kk

set_option maxHeartbeats 4000000 in
set_option maxRecDepth 100000 in
theorem c_X_fits (l : Launch) (dC : Nat → ClassId) (dI : Nat → Nat → Nat) (h0 a1 a2 a3 a4 : Nat) (cI cZ : ClassId) (tx pt qt sr : Nat → Int32) (tn pn : Nat) (hp : pn ≤ 200) (ch : Int32) (a : Nat) (ha : a < pn) (o : Option Nat) (ho : ∀ k, o = some k → fm pt qt pn a ≤ k ∧ k < pn) : Met l y_X_fits (.code y_X_fits b_X_fits 5 (some .boolean) :: wB) (Rm 2 48) (va_Pc [.ref h0, .int ch, .int (nI a), .int (oI o)] (fun U => va_P (dC, dI) classes (wX h0 a1 a2 a3 a4 cI cZ tx pt qt sr tn pn) U.heap ∧ va_K (dC, dI) classes (tyIZ cI cZ) U)) (vp_Si (fun r => r = bI (ft pt qt pn a o ch))) 0 0 (fun _ => False) := by
  refine Met.ofW (cc := b_X_fits) (maxL := 5) (ret := (some .boolean)) (by decide) rfl ?_
  intro p e s mm args below meth c s₁ B hml hv
  obtain ⟨rfl, hP, hK⟩ := hv
  have hx := B.exec
  have hb := B.bytes
  have hr := B.returns
  have hts := atoms_spec (ws := (.code y_X_fits b_X_fits 5 (some .boolean) :: wB)) B.pre
  have htB : ∀ w ∈ wB, w.before _ s = true := fun w h => hts w (List.mem_cons_of_mem _ h)
  have hown : s.vm.findClass R_X = some mm.cls := findClass_of_methodNamed B.named
  have hlocks := B.notSynchronized
  have hl := lv_entry ([.ref h0, .int ch, .int (nI a), .int (oI o)]) (n := 5) (Nat.le_of_ble_eq_true rfl)
  rw [lg_entry_eq]
  generalize (lg_sl ([.ref h0, .int ch, .int (nI a), .int (oI o)]) ++ List.replicate (5 - (lg_sl ([.ref h0, .int ch, .int (nI a), .int (oI o)])).length) Slot.unset).toArray = ls at hl ⊢
  have hl : lv_has ls 5 [(0, .ref h0), (1, .int ch), (2, .int (nI a)), (3, .int (oI o))] := hl
  refine lv_iload_n hx hb d_X_fits_0 rfl (lv_at hl 3 rfl) ?_
  refine lv_iconst (v := -1) hx hb d_X_fits_1 (by decide) ?_
  refine lv_icmp_eq (tgt := 38) hx hb d_X_fits_2 (by decide) (fun c_1 => ?_) (fun c_1 => ?_)
  · obtain rfl : o = none := (oI_m1 (fun k q => by have := ho k q; omega)).mp c_1
    refine lv_aload_n hx hb d_X_fits_38 rfl (lv_at hl 0 rfl) ?_
    refine lv_iload_n hx hb d_X_fits_39 rfl (lv_at hl 2 rfl) ?_
    refine lv_bipush (v := nI 63) hx hb d_X_fits_40 (by decide) ?_
    refine r_X_isUnquoted hp (by omega) hx hb hml hown htB hK hP hl.1 (Nat.le_of_ble_eq_true rfl) ⟨Nat.le_of_ble_eq_true rfl, Nat.le_of_ble_eq_true rfl⟩ ⟨Nat.zero_le _, Nat.zero_le _⟩ d_X_fits_42 ?_
    refine lv_if_ne (tgt := 58) hx hb d_X_fits_45 (by decide) (fun c_2 => ?_) (fun c_2 => ?_)
    · have c_2 := bI_nz.mp c_2
      refine lv_iconst (v := nI 1) hx hb d_X_fits_58 (by decide) ?_
      refine lv_goto (tgt := 63) hx hb d_X_fits_59 (by decide) ?_
      exact W.zret (v := nI 1) hx hb hr (by rfl) (fun t ht hW => ⟨_, rfl, by simp only [ft]; first | (rw [‹iu pt qt pn a (nI 63) = true›]; rfl) | (rw [decide_eq_true ‹_›, Bool.or_true]; rfl) | (rw [‹iu pt qt pn a (nI 63) = false›, decide_eq_false ‹_›]; rfl), ht⟩) (fun q h => nomatch h) d_X_fits_63
    · have c_2 := bI_z.mp c_2
      refine lv_aload_n hx hb d_X_fits_48 rfl (lv_at hl 0 rfl) ?_
      refine va_get (D := (dC, dI)) (ci := 0) (v := .ref a2) (C := R_X) (T := F_X) (N := 6) hx hb htB in_X hown hK hP 0 rfl rfl 2 (by decide) (htB _ hfl_X_17) (fun _ h9 => h9) rfl d_X_fits_49 ?_
      refine lv_iload_n hx hb d_X_fits_52 rfl (lv_at hl 2 rfl) ?_
      refine va_iald hx hb hK hP 2 0 rfl rfl (vp_in_nI (n := a) (by omega) (by decide)) d_X_fits_53 ?_
      refine lv_topi (fun v_3 ev_3 => ?_)
      obtain rfl : v_3 = pt a := ev_3.trans (by rw [nI_clamp (n := a) (by omega)])
      refine lv_iload_n hx hb d_X_fits_54 rfl (lv_at hl 1 rfl) ?_
      refine lv_icmp_ne (tgt := 62) hx hb d_X_fits_55 (by decide) (fun c_4 => ?_) (fun c_4 => ?_)
      · refine lv_iconst (v := nI 0) hx hb d_X_fits_62 (by decide) ?_
        exact W.zret (v := nI 0) hx hb hr (by rfl) (fun t ht hW => ⟨_, rfl, by simp only [ft]; first | (rw [‹iu pt qt pn a (nI 63) = true›]; rfl) | (rw [decide_eq_true ‹_›, Bool.or_true]; rfl) | (rw [‹iu pt qt pn a (nI 63) = false›, decide_eq_false ‹_›]; rfl), ht⟩) (fun q h => nomatch h) d_X_fits_63
      · refine lv_iconst (v := nI 1) hx hb d_X_fits_58 (by decide) ?_
        refine lv_goto (tgt := 63) hx hb d_X_fits_59 (by decide) ?_
        exact W.zret (v := nI 1) hx hb hr (by rfl) (fun t ht hW => ⟨_, rfl, by simp only [ft]; first | (rw [‹iu pt qt pn a (nI 63) = true›]; rfl) | (rw [decide_eq_true ‹_›, Bool.or_true]; rfl) | (rw [‹iu pt qt pn a (nI 63) = false›, decide_eq_false ‹_›]; rfl), ht⟩) (fun q h => nomatch h) d_X_fits_63
  · obtain ⟨k, rfl⟩ : ∃ k, o = some k := by
      cases o with
      | none => exact absurd rfl c_1
      | some k => exact ⟨k, rfl⟩
    have hk := ho k rfl
    have hfl := fm_le pt qt pn a
    have hl : lv_has ls 5 [(0, .ref h0), (1, .int ch), (2, .int (nI a)), (3, .int (nI k))] := hl
    refine lv_aload_n hx hb d_X_fits_5 rfl (lv_at hl 0 rfl) ?_
    refine lv_iload_n hx hb d_X_fits_6 rfl (lv_at hl 2 rfl) ?_
    refine lv_iconst (v := nI 1) hx hb d_X_fits_7 (by decide) ?_
    refine lv_iadd hx hb d_X_fits_8 ?_
    refine lv_topi (fun v_5 ev_5 => ?_)
    obtain rfl : v_5 = nI (a + 1) := ev_5.trans (nI_add _ _)
    refine lv_bipush (v := nI 33) hx hb d_X_fits_9 (by decide) ?_
    refine r_X_isUnquoted hp (by omega) hx hb hml hown htB hK hP hl.1 (Nat.le_of_ble_eq_true rfl) ⟨Nat.le_of_ble_eq_true rfl, Nat.le_of_ble_eq_true rfl⟩ ⟨Nat.zero_le _, Nat.zero_le _⟩ d_X_fits_11 ?_
    refine lv_istore (lv' := [(4, .int (bI (iu pt qt pn (a + 1) (nI 33)))), (0, .ref h0), (1, .int ch), (2, .int (nI a)), (3, .int (nI k))]) hx hb d_X_fits_14 hl (by decide) rfl (fun ls hl => ?_)
    refine lv_aload_n hx hb d_X_fits_16 rfl (lv_at hl 1 rfl) ?_
    refine lv_iload_n hx hb d_X_fits_17 rfl (lv_at hl 2 rfl) ?_
    refine lv_aload_n hx hb d_X_fits_18 rfl (lv_at hl 1 rfl) ?_
    refine lv_iload_n hx hb d_X_fits_19 rfl (lv_at hl 3 rfl) ?_
    refine r_X_firstMember hp (by omega) hx hb hml hown htB hK hP hl.1 (Nat.le_of_ble_eq_true rfl) ⟨Nat.le_of_ble_eq_true rfl, Nat.le_of_ble_eq_true rfl⟩ ⟨Nat.zero_le _, Nat.zero_le _⟩ d_X_fits_20 ?_
    refine lv_iload_n hx hb d_X_fits_23 rfl (lv_at hl 4 rfl) ?_
    refine r_X_isMember hp (by omega) (by omega) hx hb hml hown htB hK hP hl.1 (Nat.le_of_ble_eq_true rfl) ⟨Nat.le_of_ble_eq_true rfl, Nat.le_of_ble_eq_true rfl⟩ ⟨Nat.zero_le _, Nat.zero_le _⟩ d_X_fits_24 ?_
    refine lv_iload hx hb d_X_fits_27 (lv_at hl 0 rfl) ?_
    refine lv_icmp_eq (tgt := 36) hx hb d_X_fits_29 (by decide) (fun c_6 => ?_) (fun c_6 => ?_)
    · refine lv_iconst (v := nI 0) hx hb d_X_fits_36 (by decide) ?_
      exact W.zret (v := nI 0) hx hb hr (by rfl) (fun t ht hW => ⟨_, rfl, by first | exact bne_e ‹_› | exact bne_n ‹_›, ht⟩) (fun q h => nomatch h) d_X_fits_37
    · refine lv_iconst (v := nI 1) hx hb d_X_fits_32 (by decide) ?_
      refine lv_goto (tgt := 37) hx hb d_X_fits_33 (by decide) ?_
      exact W.zret (v := nI 1) hx hb hr (by rfl) (fun t ht hW => ⟨_, rfl, by first | exact bne_e ‹_› | exact bne_n ‹_›, ht⟩) (fun q h => nomatch h) d_X_fits_37

theorem r_X_fits {p : Program} {l : Launch} {e : Env} {R : Room} {s : State} {mm : MethodId} {args : Array Value} {below : List Frame} {meth : Method} {c : Code} {H : Heap} {locs : List Loc} {cells slots : Nat} {Q : State → Prop} {cc : ByteArray} {pcn nL : Nat} {ls : Array Slot} {rest : List Value} {dC : Nat → ClassId} {dI : Nat → Nat → Nat} {h0 a1 a2 a3 a4 : Nat} {cI cZ : ClassId} {tx pt qt sr : Nat → Int32} {tn pn : Nat} (hp : pn ≤ 200) {ch : Int32} {a : Nat} (ha : a < pn) {o : Option Nat} (ho : ∀ k, o = some k → fm pt qt pn a ≤ k ∧ k < pn) (hx : p.tables.exec = Jvm.exec) (hb : c.code = cc) (hml : c.maxLocals = nL) (hown : s.vm.findClass R_X = some mm.cls) (htB : ∀ w ∈ wB, w.before args s = true) (hK : va_K (dC, dI) classes (tyIZ cI cZ) s) (hP : va_P (dC, dI) classes (wX h0 a1 a2 a3 a4 cI cZ tx pt qt sr tn pn) H) (hls : ls.size = nL) (hre : (rest.map fun v => v.category).sum ≤ 8) (hR : 2 + 1 ≤ R.frames ∧ 8 + (5 + 11) + 48 ≤ R.locals) (hce : cells ≤ R.cells ∧ slots ≤ R.slots) (hd : decode cc pcn = .ok (.invokevirtual 104, 3)) (kk : W p l e R s mm args below meth c H locs cells slots Q (F0 mm (pcn + 3) ls (.int (bI (ft pt qt pn a o ch)) :: rest))) : W p l e R s mm args below meth c H locs cells slots Q (F0 mm pcn ls (.int (oI o) :: .int (nI a) :: .int ch :: .ref h0 :: rest)) := by
  refine vp_callSi (va_Run.run (va_runV (As := [.int ch, .int (nI a), .int (oI o)]) (rest := rest) ⟨hx, hb, hml, hown, htB⟩ (c_X_fits l dC dI h0 a1 a2 a3 a4 cI cZ tx pt qt sr tn pn hp ch a ha o ho) (cwV 3 htB (gV hml_X_104 hinm_X_fits hsel_X_fits hini_X hco_X_fits) rfl rfl rfl (by decide +kernel) hR) ⟨fun a U g mk q => by obtain ⟨q0, qP, qK⟩ := q; exact ⟨q0, qP, va_K.moved (u := U) (U := U.calling g mk a) (Vm.Alike.refl U.vm) qK⟩, va_recv hK hP (ci := 0) (q0 := 0) rfl rfl, fun U hU hW => ⟨rfl, by rw [hU]; exact hP, va_K.moved hW.alike hK⟩⟩ rfl rfl hls rfl (lv_room hre) hd ⟨hce.1, hce.2⟩)) (fun r hr => ?_)
  rw [hr]; exact kk

set_option maxHeartbeats 4000000 in
set_option maxRecDepth 100000 in
theorem c_X_hasRoom (l : Launch) (ln lim : Nat) (hln : ln ≤ 1000) (hlim : lim ≤ 1000) (n : Int32) : Met l y_X_hasRoom (.code y_X_hasRoom b_X_hasRoom 3 (some .boolean) :: wB) (Rm 0 0) (va_Pc [.int (nI ln), .int n, .int (nI lim)] (fun U => True)) (vp_Si (fun r => r = bI (hrm ln lim n))) 0 0 (fun _ => False) := by
  refine Met.ofW (cc := b_X_hasRoom) (maxL := 3) (ret := (some .boolean)) (by decide) rfl ?_
  intro p e s mm args below meth c s₁ B hml hv
  obtain ⟨rfl, _⟩ := hv
  have hx := B.exec
  have hb := B.bytes
  have hr := B.returns
  have hts := atoms_spec (ws := (.code y_X_hasRoom b_X_hasRoom 3 (some .boolean) :: wB)) B.pre
  have htB : ∀ w ∈ wB, w.before _ s = true := fun w h => hts w (List.mem_cons_of_mem _ h)
  have hown : s.vm.findClass R_X = some mm.cls := findClass_of_methodNamed B.named
  have hlocks := B.notSynchronized
  have hl := lv_entry ([.int (nI ln), .int n, .int (nI lim)]) (n := 3) (Nat.le_of_ble_eq_true rfl)
  rw [lg_entry_eq]
  generalize (lg_sl ([.int (nI ln), .int n, .int (nI lim)]) ++ List.replicate (3 - (lg_sl ([.int (nI ln), .int n, .int (nI lim)])).length) Slot.unset).toArray = ls at hl ⊢
  have hl : lv_has ls 3 [(0, .int (nI ln)), (1, .int n), (2, .int (nI lim))] := hl
  refine lv_iload_n hx hb d_X_hasRoom_0 rfl (lv_at hl 1 rfl) ?_
  refine lv_if_lt (tgt := 21) hx hb d_X_hasRoom_1 (by decide) (fun c_1 => ?_) (fun c_1 => ?_)
  · refine lv_iconst (v := nI 0) hx hb d_X_hasRoom_21 (by decide) ?_
    exact W.zret (v := nI 0) hx hb hr (by rfl) (fun t ht hW => ⟨_, rfl, by first | (rw [hrm_a ‹_›]; rfl) | (rw [hrm_b ‹_›]; rfl) | (rw [hrm_c hj, decide_eq_true (by omega)]; rfl) | (rw [hrm_c hj, decide_eq_false (by omega)]; rfl), ht⟩) (fun q h => nomatch h) d_X_hasRoom_22
  · refine lv_iload_n hx hb d_X_hasRoom_4 rfl (lv_at hl 1 rfl) ?_
    refine lv_bipush (v := nI 8) hx hb d_X_hasRoom_5 (by decide) ?_
    refine lv_icmp_gt (tgt := 21) hx hb d_X_hasRoom_7 (by decide) (fun c_2 => ?_) (fun c_2 => ?_)
    · refine lv_iconst (v := nI 0) hx hb d_X_hasRoom_21 (by decide) ?_
      exact W.zret (v := nI 0) hx hb hr (by rfl) (fun t ht hW => ⟨_, rfl, by first | (rw [hrm_a ‹_›]; rfl) | (rw [hrm_b ‹_›]; rfl) | (rw [hrm_c hj, decide_eq_true (by omega)]; rfl) | (rw [hrm_c hj, decide_eq_false (by omega)]; rfl), ht⟩) (fun q h => nomatch h) d_X_hasRoom_22
    · obtain ⟨j, hj, rfl⟩ := hrm_j c_1 c_2
      refine lv_iload_n hx hb d_X_hasRoom_10 rfl (lv_at hl 0 rfl) ?_
      refine lv_iload_n hx hb d_X_hasRoom_11 rfl (lv_at hl 1 rfl) ?_
      refine lv_iadd hx hb d_X_hasRoom_12 ?_
      refine lv_topi (fun v_3 ev_3 => ?_)
      obtain rfl : v_3 = nI (ln + j) := ev_3.trans (nI_add _ _)
      refine lv_iload_n hx hb d_X_hasRoom_13 rfl (lv_at hl 2 rfl) ?_
      refine lv_icmp_gt (tgt := 21) hx hb d_X_hasRoom_14 (by decide) (fun c_4 => ?_) (fun c_4 => ?_)
      · have c_4 := (nI_ltI (by omega) (by omega)).mp c_4
        refine lv_iconst (v := nI 0) hx hb d_X_hasRoom_21 (by decide) ?_
        exact W.zret (v := nI 0) hx hb hr (by rfl) (fun t ht hW => ⟨_, rfl, by first | (rw [hrm_a ‹_›]; rfl) | (rw [hrm_b ‹_›]; rfl) | (rw [hrm_c hj, decide_eq_true (by omega)]; rfl) | (rw [hrm_c hj, decide_eq_false (by omega)]; rfl), ht⟩) (fun q h => nomatch h) d_X_hasRoom_22
      · have c_4 := mt (nI_ltI (by omega) (by omega)).mpr c_4
        refine lv_iconst (v := nI 1) hx hb d_X_hasRoom_17 (by decide) ?_
        refine lv_goto (tgt := 22) hx hb d_X_hasRoom_18 (by decide) ?_
        exact W.zret (v := nI 1) hx hb hr (by rfl) (fun t ht hW => ⟨_, rfl, by first | (rw [hrm_a ‹_›]; rfl) | (rw [hrm_b ‹_›]; rfl) | (rw [hrm_c hj, decide_eq_true (by omega)]; rfl) | (rw [hrm_c hj, decide_eq_false (by omega)]; rfl), ht⟩) (fun q h => nomatch h) d_X_hasRoom_22

theorem r_X_hasRoom {p : Program} {l : Launch} {e : Env} {R : Room} {s : State} {mm : MethodId} {args : Array Value} {below : List Frame} {meth : Method} {c : Code} {H : Heap} {locs : List Loc} {cells slots : Nat} {Q : State → Prop} {cc : ByteArray} {pcn nL : Nat} {ls : Array Slot} {rest : List Value} {ln lim : Nat} (hln : ln ≤ 1000) (hlim : lim ≤ 1000) {n : Int32} (hx : p.tables.exec = Jvm.exec) (hb : c.code = cc) (hml : c.maxLocals = nL) (hown : s.vm.findClass R_X = some mm.cls) (htB : ∀ w ∈ wB, w.before args s = true) (hls : ls.size = nL) (hre : (rest.map fun v => v.category).sum ≤ 8) (hR : 0 + 1 ≤ R.frames ∧ 8 + (3 + 11) + 0 ≤ R.locals) (hce : cells ≤ R.cells ∧ slots ≤ R.slots) (hd : decode cc pcn = .ok (.invokestatic 30, 3)) (kk : W p l e R s mm args below meth c H locs cells slots Q (F0 mm (pcn + 3) ls (.int (bI (hrm ln lim n)) :: rest))) : W p l e R s mm args below meth c H locs cells slots Q (F0 mm pcn ls (.int (nI lim) :: .int n :: .int (nI ln) :: rest)) := by
  refine vp_callSi (va_Run.run (va_runS (As := [.int (nI ln), .int n, .int (nI lim)]) (rest := rest) ⟨hx, hb, hml, hown, htB⟩ (c_X_hasRoom l ln lim hln hlim n) (cwS 3 htB (gS hml_X_30 hsta_X_hasRoom hini_X hco_X_hasRoom) rfl rfl rfl (by decide +kernel) hR) ⟨fun a U g mk q => ⟨q.1, trivial⟩, fun U hU hW => ⟨rfl, trivial⟩⟩ rfl rfl hls rfl (lv_room hre) hd ⟨hce.1, hce.2⟩)) (fun r hr => ?_)
  rw [hr]; exact kk

set_option maxHeartbeats 4000000 in
set_option maxRecDepth 100000 in
theorem c_X_byteOf (l : Launch) (x : Int64) (j i : Nat) (hi : i < j) : Met l y_X_byteOf (.code y_X_byteOf b_X_byteOf 4 (some .int) :: wB) (Rm 0 0) (va_Pc [.long x, .int (nI j), .int (nI i)] (fun U => True)) (vp_Si (fun r => r = bu x (8 * (j - 1 - i)))) 0 0 (fun _ => False) := by
  refine Met.ofW (cc := b_X_byteOf) (maxL := 4) (ret := (some .int)) (by decide) rfl ?_
  intro p e s mm args below meth c s₁ B hml hv
  obtain ⟨rfl, _⟩ := hv
  have hx := B.exec
  have hb := B.bytes
  have hr := B.returns
  have hts := atoms_spec (ws := (.code y_X_byteOf b_X_byteOf 4 (some .int) :: wB)) B.pre
  have htB : ∀ w ∈ wB, w.before _ s = true := fun w h => hts w (List.mem_cons_of_mem _ h)
  have hown : s.vm.findClass R_X = some mm.cls := findClass_of_methodNamed B.named
  have hlocks := B.notSynchronized
  have hl := lv_entry ([.long x, .int (nI j), .int (nI i)]) (n := 4) (Nat.le_of_ble_eq_true rfl)
  rw [lg_entry_eq]
  generalize (lg_sl ([.long x, .int (nI j), .int (nI i)]) ++ List.replicate (4 - (lg_sl ([.long x, .int (nI j), .int (nI i)])).length) Slot.unset).toArray = ls at hl ⊢
  have hl : lv_has ls 4 [(0, .long x), (2, .int (nI j)), (3, .int (nI i))] := hl
  refine lv_lload_n hx hb d_X_byteOf_0 rfl (lv_at hl 0 rfl) ?_
  refine lv_bipush (v := nI 8) hx hb d_X_byteOf_1 (by decide) ?_
  refine lv_iload_n hx hb d_X_byteOf_3 rfl (lv_at hl 1 rfl) ?_
  refine lv_iconst (v := nI 1) hx hb d_X_byteOf_4 (by decide) ?_
  refine lv_isub hx hb d_X_byteOf_5 ?_
  refine lv_topi (fun v_1 ev_1 => ?_)
  obtain rfl : v_1 = nI (j - 1) := ev_1.trans (pk_sub (by omega))
  refine lv_iload_n hx hb d_X_byteOf_6 rfl (lv_at hl 2 rfl) ?_
  refine lv_isub hx hb d_X_byteOf_7 ?_
  refine lv_topi (fun v_2 ev_2 => ?_)
  obtain rfl : v_2 = nI (j - 1 - i) := ev_2.trans (pk_sub (by omega))
  refine lv_imul hx hb d_X_byteOf_8 ?_
  refine lv_topi (fun v_3 ev_3 => ?_)
  obtain rfl : v_3 = nI (8 * (j - 1 - i)) := ev_3.trans (pk_mul _ _)
  refine lv_lushr hx hb d_X_byteOf_9 rfl ?_
  refine lv_topl (fun v_4 ev_4 => ?_)
  refine lv_ldc2 (v := 255) hx hb hown (htB _ hcn_X_67) d_X_byteOf_10 ?_
  refine lv_land hx hb d_X_byteOf_13 ?_
  refine lv_topl (fun v_5 ev_5 => ?_)
  refine lv_l2i hx hb d_X_byteOf_14 rfl ?_
  refine lv_topi (fun v_6 ev_6 => ?_)
  exact W.iret (v := v_6) hx hb hr (fun t ht hW => ⟨_, rfl, by simp only [bu, ‹_ = _›, *], ht⟩) (fun q h => nomatch h) d_X_byteOf_15

theorem r_X_byteOf {p : Program} {l : Launch} {e : Env} {R : Room} {s : State} {mm : MethodId} {args : Array Value} {below : List Frame} {meth : Method} {c : Code} {H : Heap} {locs : List Loc} {cells slots : Nat} {Q : State → Prop} {cc : ByteArray} {pcn nL : Nat} {ls : Array Slot} {rest : List Value} {x : Int64} {j i : Nat} (hi : i < j) (hx : p.tables.exec = Jvm.exec) (hb : c.code = cc) (hml : c.maxLocals = nL) (hown : s.vm.findClass R_X = some mm.cls) (htB : ∀ w ∈ wB, w.before args s = true) (hls : ls.size = nL) (hre : (rest.map fun v => v.category).sum ≤ 8) (hR : 0 + 1 ≤ R.frames ∧ 8 + (4 + 11) + 0 ≤ R.locals) (hce : cells ≤ R.cells ∧ slots ≤ R.slots) (hd : decode cc pcn = .ok (.invokestatic 34, 3)) (kk : W p l e R s mm args below meth c H locs cells slots Q (F0 mm (pcn + 3) ls (.int (bu x (8 * (j - 1 - i))) :: rest))) : W p l e R s mm args below meth c H locs cells slots Q (F0 mm pcn ls (.int (nI i) :: .int (nI j) :: .long x :: rest)) := by
  refine vp_callSi (va_Run.run (va_runS (As := [.long x, .int (nI j), .int (nI i)]) (rest := rest) ⟨hx, hb, hml, hown, htB⟩ (c_X_byteOf l x j i hi) (cwS 3 htB (gS hml_X_34 hsta_X_byteOf hini_X hco_X_byteOf) rfl rfl rfl (by decide +kernel) hR) ⟨fun a U g mk q => ⟨q.1, trivial⟩, fun U hU hW => ⟨rfl, trivial⟩⟩ rfl rfl hls rfl (lv_room hre) hd ⟨hce.1, hce.2⟩)) (fun r hr => ?_)
  rw [hr]; exact kk

set_option maxHeartbeats 4000000 in
set_option maxRecDepth 100000 in
theorem c_X_better (l : Launch) (b : Bool) (o1 o2 : Option Nat) (ho1 : ∀ k, o1 = some k → k ≤ 1000) (ho2 : ∀ k, o2 = some k → k ≤ 1000) : Met l y_X_better (.code y_X_better b_X_better 3 (some .int) :: wB) (Rm 1 30) (va_Pc [.int (oI o1), .int (oI o2), .int (bI b)] (fun U => True)) (vp_Si (fun r => r = oI (btr b o1 o2))) 0 0 (fun _ => False) := by
  refine Met.ofW (cc := b_X_better) (maxL := 3) (ret := (some .int)) (by decide) rfl ?_
  intro p e s mm args below meth c s₁ B hml hv
  obtain ⟨rfl, _⟩ := hv
  have hx := B.exec
  have hb := B.bytes
  have hr := B.returns
  have hts := atoms_spec (ws := (.code y_X_better b_X_better 3 (some .int) :: wB)) B.pre
  have htB : ∀ w ∈ wB, w.before _ s = true := fun w h => hts w (List.mem_cons_of_mem _ h)
  have hown : s.vm.findClass R_X = some mm.cls := findClass_of_methodNamed B.named
  have hlocks := B.notSynchronized
  have hl := lv_entry ([.int (oI o1), .int (oI o2), .int (bI b)]) (n := 3) (Nat.le_of_ble_eq_true rfl)
  rw [lg_entry_eq]
  generalize (lg_sl ([.int (oI o1), .int (oI o2), .int (bI b)]) ++ List.replicate (3 - (lg_sl ([.int (oI o1), .int (oI o2), .int (bI b)])).length) Slot.unset).toArray = ls at hl ⊢
  have hl : lv_has ls 3 [(0, .int (oI o1)), (1, .int (oI o2)), (2, .int (bI b))] := hl
  rcases o1 with _ | x <;> rcases o2 with _ | y
  · have hl : lv_has ls 3 [(0, .int (-1)), (1, .int (-1)), (2, .int (bI b))] := hl
    refine lv_iload_n hx hb d_X_better_0 rfl (lv_at hl 0 rfl) ?_
    refine lv_iconst (v := -1) hx hb d_X_better_1 (by decide) ?_
    refine lv_icmp_eq (tgt := 10) hx hb d_X_better_2 (by decide) (fun c_1 => ?_) (fun c_1 => ?_)
    · clear c_1
      refine lv_iload_n hx hb d_X_better_10 rfl (lv_at hl 0 rfl) ?_
      refine lv_iconst (v := -1) hx hb d_X_better_11 (by decide) ?_
      refine lv_icmp_ne (tgt := 19) hx hb d_X_better_12 (by decide) (fun c_2 => ?_) (fun c_2 => ?_)
      · exact absurd c_2 (by decide)
      · clear c_2
        refine lv_iload_n hx hb d_X_better_15 rfl (lv_at hl 1 rfl) ?_
        refine lv_goto (tgt := 20) hx hb d_X_better_16 (by decide) ?_
        exact W.iret (v := -1) hx hb hr (fun t ht hW => ⟨_, rfl, by first | rfl | (rw [show b = true from ‹_›]; rfl) | (rw [show b = false from ‹_›]; rfl), ht⟩) (fun q h => nomatch h) d_X_better_20
    · exact absurd c_1 (by decide)
  · have hl : lv_has ls 3 [(0, .int (-1)), (1, .int (nI y)), (2, .int (bI b))] := hl
    have hy1 := ho2 y rfl
    refine lv_iload_n hx hb d_X_better_0 rfl (lv_at hl 0 rfl) ?_
    refine lv_iconst (v := -1) hx hb d_X_better_1 (by decide) ?_
    refine lv_icmp_eq (tgt := 10) hx hb d_X_better_2 (by decide) (fun c_1 => ?_) (fun c_1 => ?_)
    · clear c_1
      refine lv_iload_n hx hb d_X_better_10 rfl (lv_at hl 0 rfl) ?_
      refine lv_iconst (v := -1) hx hb d_X_better_11 (by decide) ?_
      refine lv_icmp_ne (tgt := 19) hx hb d_X_better_12 (by decide) (fun c_2 => ?_) (fun c_2 => ?_)
      · exact absurd c_2 (by decide)
      · clear c_2
        refine lv_iload_n hx hb d_X_better_15 rfl (lv_at hl 1 rfl) ?_
        refine lv_goto (tgt := 20) hx hb d_X_better_16 (by decide) ?_
        exact W.iret (v := nI y) hx hb hr (fun t ht hW => ⟨_, rfl, by first | rfl | (rw [show b = true from ‹_›]; rfl) | (rw [show b = false from ‹_›]; rfl), ht⟩) (fun q h => nomatch h) d_X_better_20
    · exact absurd c_1 (by decide)
  · have hl : lv_has ls 3 [(0, .int (nI x)), (1, .int (-1)), (2, .int (bI b))] := hl
    have hx1 := ho1 x rfl
    refine lv_iload_n hx hb d_X_better_0 rfl (lv_at hl 0 rfl) ?_
    refine lv_iconst (v := -1) hx hb d_X_better_1 (by decide) ?_
    refine lv_icmp_eq (tgt := 10) hx hb d_X_better_2 (by decide) (fun c_1 => ?_) (fun c_1 => ?_)
    · exact absurd c_1 (nI_ne_m1 (by omega))
    · clear c_1
      refine lv_iload_n hx hb d_X_better_5 rfl (lv_at hl 1 rfl) ?_
      refine lv_iconst (v := -1) hx hb d_X_better_6 (by decide) ?_
      refine lv_icmp_ne (tgt := 21) hx hb d_X_better_7 (by decide) (fun c_2 => ?_) (fun c_2 => ?_)
      · exact absurd c_2 (by decide)
      · clear c_2
        refine lv_iload_n hx hb d_X_better_10 rfl (lv_at hl 0 rfl) ?_
        refine lv_iconst (v := -1) hx hb d_X_better_11 (by decide) ?_
        refine lv_icmp_ne (tgt := 19) hx hb d_X_better_12 (by decide) (fun c_3 => ?_) (fun c_3 => ?_)
        · clear c_3
          refine lv_iload_n hx hb d_X_better_19 rfl (lv_at hl 0 rfl) ?_
          exact W.iret (v := nI x) hx hb hr (fun t ht hW => ⟨_, rfl, by first | rfl | (rw [show b = true from ‹_›]; rfl) | (rw [show b = false from ‹_›]; rfl), ht⟩) (fun q h => nomatch h) d_X_better_20
        · exact absurd c_3 (nI_ne_m1 (by omega))
  · have hl : lv_has ls 3 [(0, .int (nI x)), (1, .int (nI y)), (2, .int (bI b))] := hl
    have hx1 := ho1 x rfl
    have hy1 := ho2 y rfl
    refine lv_iload_n hx hb d_X_better_0 rfl (lv_at hl 0 rfl) ?_
    refine lv_iconst (v := -1) hx hb d_X_better_1 (by decide) ?_
    refine lv_icmp_eq (tgt := 10) hx hb d_X_better_2 (by decide) (fun c_1 => ?_) (fun c_1 => ?_)
    · exact absurd c_1 (nI_ne_m1 (by omega))
    · clear c_1
      refine lv_iload_n hx hb d_X_better_5 rfl (lv_at hl 1 rfl) ?_
      refine lv_iconst (v := -1) hx hb d_X_better_6 (by decide) ?_
      refine lv_icmp_ne (tgt := 21) hx hb d_X_better_7 (by decide) (fun c_2 => ?_) (fun c_2 => ?_)
      · clear c_2
        refine lv_iload_n hx hb d_X_better_21 rfl (lv_at hl 2 rfl) ?_
        refine lv_if_eq (tgt := 33) hx hb d_X_better_22 (by decide) (fun c_3 => ?_) (fun c_3 => ?_)
        · have c_3 := bI_z.mp c_3
          refine lv_iload_n hx hb d_X_better_33 rfl (lv_at hl 0 rfl) ?_
          refine lv_iload_n hx hb d_X_better_34 rfl (lv_at hl 1 rfl) ?_
          refine va_mmax hx hb (by rw [hml]; exact hl.1.symm) hown (htB _ hml_X_91) (htB _ hsta_Math_max) (htB _ hini_Math) (htB _ hco_Math_max) (Nat.le_of_ble_eq_true rfl) (Nat.le_of_ble_eq_true rfl) (Nat.zero_le _) (Nat.zero_le _) d_X_better_35 ?_
          refine lv_topi (fun v_4 ev_4 => ?_)
          obtain rfl : v_4 = nI (max x y) := ev_4.trans (btr_max (by omega) (by omega))
          exact W.iret (v := nI (max x y)) hx hb hr (fun t ht hW => ⟨_, rfl, by first | rfl | (rw [show b = true from ‹_›]; rfl) | (rw [show b = false from ‹_›]; rfl), ht⟩) (fun q h => nomatch h) d_X_better_38
        · have c_3 := bI_nz.mp c_3
          refine lv_iload_n hx hb d_X_better_25 rfl (lv_at hl 0 rfl) ?_
          refine lv_iload_n hx hb d_X_better_26 rfl (lv_at hl 1 rfl) ?_
          refine va_mmin hx hb (by rw [hml]; exact hl.1.symm) hown (htB _ hml_X_101) (htB _ hsta_Math_min) (htB _ hini_Math) (htB _ hco_Math_min) (Nat.le_of_ble_eq_true rfl) (Nat.le_of_ble_eq_true rfl) (Nat.zero_le _) (Nat.zero_le _) d_X_better_27 ?_
          refine lv_topi (fun v_5 ev_5 => ?_)
          obtain rfl : v_5 = nI (min x y) := ev_5.trans (btr_min (by omega) (by omega))
          refine lv_goto (tgt := 38) hx hb d_X_better_30 (by decide) ?_
          exact W.iret (v := nI (min x y)) hx hb hr (fun t ht hW => ⟨_, rfl, by first | rfl | (rw [show b = true from ‹_›]; rfl) | (rw [show b = false from ‹_›]; rfl), ht⟩) (fun q h => nomatch h) d_X_better_38
      · exact absurd c_2 (nI_ne_m1 (by omega))

theorem r_X_better {p : Program} {l : Launch} {e : Env} {R : Room} {s : State} {mm : MethodId} {args : Array Value} {below : List Frame} {meth : Method} {c : Code} {H : Heap} {locs : List Loc} {cells slots : Nat} {Q : State → Prop} {cc : ByteArray} {pcn nL : Nat} {ls : Array Slot} {rest : List Value} {b : Bool} {o1 o2 : Option Nat} (ho1 : ∀ k, o1 = some k → k ≤ 1000) (ho2 : ∀ k, o2 = some k → k ≤ 1000) (hx : p.tables.exec = Jvm.exec) (hb : c.code = cc) (hml : c.maxLocals = nL) (hown : s.vm.findClass R_X = some mm.cls) (htB : ∀ w ∈ wB, w.before args s = true) (hls : ls.size = nL) (hre : (rest.map fun v => v.category).sum ≤ 8) (hR : 1 + 1 ≤ R.frames ∧ 8 + (3 + 11) + 30 ≤ R.locals) (hce : cells ≤ R.cells ∧ slots ≤ R.slots) (hd : decode cc pcn = .ok (.invokestatic 97, 3)) (kk : W p l e R s mm args below meth c H locs cells slots Q (F0 mm (pcn + 3) ls (.int (oI (btr b o1 o2)) :: rest))) : W p l e R s mm args below meth c H locs cells slots Q (F0 mm pcn ls (.int (bI b) :: .int (oI o2) :: .int (oI o1) :: rest)) := by
  refine vp_callSi (va_Run.run (va_runS (As := [.int (oI o1), .int (oI o2), .int (bI b)]) (rest := rest) ⟨hx, hb, hml, hown, htB⟩ (c_X_better l b o1 o2 ho1 ho2) (cwS 3 htB (gS hml_X_97 hsta_X_better hini_X hco_X_better) rfl rfl rfl (by decide +kernel) hR) ⟨fun a U g mk q => ⟨q.1, trivial⟩, fun U hU hW => ⟨rfl, trivial⟩⟩ rfl rfl hls rfl (lv_room hre) hd ⟨hce.1, hce.2⟩)) (fun r hr => ?_)
  rw [hr]; exact kk
end
section
/-! the class: counts: by wip/whole/gen/gen08.py -/
set_option maxHeartbeats 4000000 in
set_option maxRecDepth 100000 in
theorem c_X_quotedCount (l : Launch) (dC : Nat → ClassId) (dI : Nat → Nat → Nat) (h0 a1 a2 a3 a4 : Nat) (cI cZ : ClassId) (tx pt qt sr : Nat → Int32) (tn pn : Nat) (hp : pn ≤ 200) : Met l y_X_quotedCount (.code y_X_quotedCount b_X_quotedCount 3 (some .int) :: wB) (Rm 0 0) (va_Pc [.ref h0] (fun U => va_P (dC, dI) classes (wX h0 a1 a2 a3 a4 cI cZ tx pt qt sr tn pn) U.heap ∧ va_K (dC, dI) classes (tyIZ cI cZ) U)) (vp_Si (fun r => r = nI (cq qt pn))) 0 0 (fun _ => False) := by
  refine Met.ofW (cc := b_X_quotedCount) (maxL := 3) (ret := (some .int)) (by decide) rfl ?_
  intro p e s mm args below meth c s₁ B hml hv
  obtain ⟨rfl, hP, hK⟩ := hv
  have hx := B.exec
  have hb := B.bytes
  have hr := B.returns
  have hts := atoms_spec (ws := (.code y_X_quotedCount b_X_quotedCount 3 (some .int) :: wB)) B.pre
  have htB : ∀ w ∈ wB, w.before _ s = true := fun w h => hts w (List.mem_cons_of_mem _ h)
  have hown : s.vm.findClass R_X = some mm.cls := findClass_of_methodNamed B.named
  have hlocks := B.notSynchronized
  have hl := lv_entry ([.ref h0]) (n := 3) (Nat.le_of_ble_eq_true rfl)
  rw [lg_entry_eq]
  generalize (lg_sl ([.ref h0]) ++ List.replicate (3 - (lg_sl ([.ref h0])).length) Slot.unset).toArray = ls at hl ⊢
  have hl : lv_has ls 3 [(0, .ref h0)] := hl
  have loop : ∀ (n i : Nat), i ≤ 1000 → 1000 < i + n → i ≤ pn → ∀ ls : Array Slot, lv_has ls 3 [(1, .int (nI (cq qt i))), (2, .int (nI i)), (0, .ref h0)] → W p l e (Rm 0 0) s mm [.ref h0].toArray below meth c s.heap [] 0 0 (MQ below (vp_Si (fun r => r = nI (cq qt pn))) [.ref h0].toArray s 0 0 (fun _ => False)) (F0 mm 4 ls []) := by
    intro n
    induction n with
    | zero => intro i h1 h2; exact absurd h2 (by omega)
    | succ n ih =>
      intro i hi hn hip ls hl
      have hcq := cq_le qt i
      refine lv_iload_n hx hb d_X_quotedCount_4 rfl (lv_at hl 1 rfl) ?_
      refine lv_aload_n hx hb d_X_quotedCount_5 rfl (lv_at hl 2 rfl) ?_
      refine va_get (D := (dC, dI)) (ci := 0) (v := .int (nI pn)) (C := R_X) (T := F_X) (N := 6) hx hb htB in_X hown hK hP 0 rfl rfl 4 (by decide) (htB _ hfl_X_24) (fun _ h9 => h9) rfl d_X_quotedCount_6 ?_
      refine lv_icmp_ge (tgt := 30) hx hb d_X_quotedCount_9 (by decide) (fun c_1 => ?_) (fun c_1 => ?_)
      · have c_1 := (nI_leI (by omega) (by omega)).mp c_1
        refine lv_iload_n hx hb d_X_quotedCount_30 rfl (lv_at hl 0 rfl) ?_
        exact W.iret (v := nI (cq qt i)) hx hb hr (fun t ht hW => ⟨_, rfl, by rw [show i = pn by omega], ht⟩) (fun q h => nomatch h) d_X_quotedCount_31
      · have c_1 := mt (nI_leI (by omega) (by omega)).mpr c_1
        refine lv_aload_n hx hb d_X_quotedCount_12 rfl (lv_at hl 2 rfl) ?_
        refine va_get (D := (dC, dI)) (ci := 0) (v := .ref a3) (C := R_X) (T := F_X) (N := 6) hx hb htB in_X hown hK hP 0 rfl rfl 3 (by decide) (htB _ hfl_X_20) (fun _ h9 => h9) rfl d_X_quotedCount_13 ?_
        refine lv_iload_n hx hb d_X_quotedCount_16 rfl (lv_at hl 1 rfl) ?_
        refine va_zald hx hb hK hP 3 1 rfl rfl (vp_in_nI (n := i) (by omega) (by decide)) d_X_quotedCount_17 ?_
        refine lv_topi (fun v_2 ev_2 => ?_)
        obtain rfl : v_2 = qt i := ev_2.trans (by rw [nI_clamp (n := i) (by omega)])
        refine lv_if_eq (tgt := 24) hx hb d_X_quotedCount_18 (by decide) (fun c_3 => ?_) (fun c_3 => ?_)
        · refine lv_iinc (v := nI (i + 1)) (lv' := [(2, .int (nI (i + 1))), (1, .int (nI (cq qt i))), (0, .ref h0)]) hx hb d_X_quotedCount_24 hl (k := 1) rfl (nI_add _ 1) (by decide) rfl (fun ls hl => ?_)
          refine lv_goto (tgt := 4) hx hb d_X_quotedCount_27 (by decide) ?_
          exact ih (i + 1) (by omega) (by omega) (by omega) ls (by have hl := lv_sub hl [1, 0, 2] rfl; rw [show cq qt (i + 1) = cq qt i by (conv => lhs; unfold cq); rw [if_pos ‹_›]]; exact hl)
        · refine lv_iinc (v := nI (cq qt i + 1)) (lv' := [(1, .int (nI (cq qt i + 1))), (2, .int (nI i)), (0, .ref h0)]) hx hb d_X_quotedCount_21 hl (k := 0) rfl (nI_add _ 1) (by decide) rfl (fun ls hl => ?_)
          refine lv_iinc (v := nI (i + 1)) (lv' := [(2, .int (nI (i + 1))), (1, .int (nI (cq qt i + 1))), (0, .ref h0)]) hx hb d_X_quotedCount_24 hl (k := 1) rfl (nI_add _ 1) (by decide) rfl (fun ls hl => ?_)
          refine lv_goto (tgt := 4) hx hb d_X_quotedCount_27 (by decide) ?_
          exact ih (i + 1) (by omega) (by omega) (by omega) ls (by have hl := lv_sub hl [1, 0, 2] rfl; rw [show cq qt (i + 1) = cq qt i + 1 by (conv => lhs; unfold cq); rw [if_neg ‹_›]]; exact hl)
  refine lv_iconst (v := nI 0) hx hb d_X_quotedCount_0 (by decide) ?_
  refine lv_istore_n (lv' := [(1, .int (nI 0)), (0, .ref h0)]) hx hb d_X_quotedCount_1 rfl hl (by decide) rfl (fun ls hl => ?_)
  refine lv_iconst (v := nI 0) hx hb d_X_quotedCount_2 (by decide) ?_
  refine lv_istore_n (lv' := [(2, .int (nI 0)), (1, .int (nI 0)), (0, .ref h0)]) hx hb d_X_quotedCount_3 rfl hl (by decide) rfl (fun ls hl => ?_)
  exact loop 1001 0 (by omega) (by omega) (by omega) ls (lv_sub hl [1, 0, 2] rfl)

theorem r_X_quotedCount {p : Program} {l : Launch} {e : Env} {R : Room} {s : State} {mm : MethodId} {args : Array Value} {below : List Frame} {meth : Method} {c : Code} {H : Heap} {locs : List Loc} {cells slots : Nat} {Q : State → Prop} {cc : ByteArray} {pcn nL : Nat} {ls : Array Slot} {rest : List Value} {dC : Nat → ClassId} {dI : Nat → Nat → Nat} {h0 a1 a2 a3 a4 : Nat} {cI cZ : ClassId} {tx pt qt sr : Nat → Int32} {tn pn : Nat} (hp : pn ≤ 200) (hx : p.tables.exec = Jvm.exec) (hb : c.code = cc) (hml : c.maxLocals = nL) (hown : s.vm.findClass R_X = some mm.cls) (htB : ∀ w ∈ wB, w.before args s = true) (hK : va_K (dC, dI) classes (tyIZ cI cZ) s) (hP : va_P (dC, dI) classes (wX h0 a1 a2 a3 a4 cI cZ tx pt qt sr tn pn) H) (hls : ls.size = nL) (hre : (rest.map fun v => v.category).sum ≤ 8) (hR : 0 + 1 ≤ R.frames ∧ 8 + (3 + 11) + 0 ≤ R.locals) (hce : cells ≤ R.cells ∧ slots ≤ R.slots) (hd : decode cc pcn = .ok (.invokevirtual 60, 3)) (kk : W p l e R s mm args below meth c H locs cells slots Q (F0 mm (pcn + 3) ls (.int (nI (cq qt pn)) :: rest))) : W p l e R s mm args below meth c H locs cells slots Q (F0 mm pcn ls (.ref h0 :: rest)) := by
  refine vp_callSi (va_Run.run (va_runV (As := []) (rest := rest) ⟨hx, hb, hml, hown, htB⟩ (c_X_quotedCount l dC dI h0 a1 a2 a3 a4 cI cZ tx pt qt sr tn pn hp) (cwV 0 htB (gV hml_X_60 hinm_X_quotedCount hsel_X_quotedCount hini_X hco_X_quotedCount) rfl rfl rfl (by decide +kernel) hR) ⟨fun a U g mk q => by obtain ⟨q0, qP, qK⟩ := q; exact ⟨q0, qP, va_K.moved (u := U) (U := U.calling g mk a) (Vm.Alike.refl U.vm) qK⟩, va_recv hK hP (ci := 0) (q0 := 0) rfl rfl, fun U hU hW => ⟨rfl, by rw [hU]; exact hP, va_K.moved hW.alike hK⟩⟩ rfl rfl hls rfl (lv_room hre) hd ⟨hce.1, hce.2⟩)) (fun r hr => ?_)
  rw [hr]; exact kk

set_option maxHeartbeats 4000000 in
set_option maxRecDepth 100000 in
theorem c_X_setCount (l : Launch) (dC : Nat → ClassId) (dI : Nat → Nat → Nat) (h0 a1 a2 a3 a4 : Nat) (cI cZ : ClassId) (tx pt qt sr : Nat → Int32) (tn pn : Nat) (hp : pn ≤ 200) : Met l y_X_setCount (.code y_X_setCount b_X_setCount 3 (some .int) :: wB) (Rm 3 66) (va_Pc [.ref h0] (fun U => va_P (dC, dI) classes (wX h0 a1 a2 a3 a4 cI cZ tx pt qt sr tn pn) U.heap ∧ va_K (dC, dI) classes (tyIZ cI cZ) U)) (vp_Si (fun r => r = nI (cs pt qt pn pn))) 0 0 (fun _ => False) := by
  refine Met.ofW (cc := b_X_setCount) (maxL := 3) (ret := (some .int)) (by decide) rfl ?_
  intro p e s mm args below meth c s₁ B hml hv
  obtain ⟨rfl, hP, hK⟩ := hv
  have hx := B.exec
  have hb := B.bytes
  have hr := B.returns
  have hts := atoms_spec (ws := (.code y_X_setCount b_X_setCount 3 (some .int) :: wB)) B.pre
  have htB : ∀ w ∈ wB, w.before _ s = true := fun w h => hts w (List.mem_cons_of_mem _ h)
  have hown : s.vm.findClass R_X = some mm.cls := findClass_of_methodNamed B.named
  have hlocks := B.notSynchronized
  have hl := lv_entry ([.ref h0]) (n := 3) (Nat.le_of_ble_eq_true rfl)
  rw [lg_entry_eq]
  generalize (lg_sl ([.ref h0]) ++ List.replicate (3 - (lg_sl ([.ref h0])).length) Slot.unset).toArray = ls at hl ⊢
  have hl : lv_has ls 3 [(0, .ref h0)] := hl
  have loop : ∀ (n i : Nat), i ≤ 1000 → 1000 < i + n → i ≤ pn → ∀ ls : Array Slot, lv_has ls 3 [(1, .int (nI (cs pt qt pn i))), (2, .int (nI i)), (0, .ref h0)] → W p l e (Rm 3 66) s mm [.ref h0].toArray below meth c s.heap [] 0 0 (MQ below (vp_Si (fun r => r = nI (cs pt qt pn pn))) [.ref h0].toArray s 0 0 (fun _ => False)) (F0 mm 4 ls []) := by
    intro n
    induction n with
    | zero => intro i h1 h2; exact absurd h2 (by omega)
    | succ n ih =>
      intro i hi hn hip ls hl
      have hcs := cs_le pt qt pn i
      refine lv_iload_n hx hb d_X_setCount_4 rfl (lv_at hl 1 rfl) ?_
      refine lv_aload_n hx hb d_X_setCount_5 rfl (lv_at hl 2 rfl) ?_
      refine va_get (D := (dC, dI)) (ci := 0) (v := .int (nI pn)) (C := R_X) (T := F_X) (N := 6) hx hb htB in_X hown hK hP 0 rfl rfl 4 (by decide) (htB _ hfl_X_24) (fun _ h9 => h9) rfl d_X_setCount_6 ?_
      refine lv_icmp_ge (tgt := 30) hx hb d_X_setCount_9 (by decide) (fun c_1 => ?_) (fun c_1 => ?_)
      · have c_1 := (nI_leI (by omega) (by omega)).mp c_1
        refine lv_iload_n hx hb d_X_setCount_30 rfl (lv_at hl 0 rfl) ?_
        exact W.iret (v := nI (cs pt qt pn i)) hx hb hr (fun t ht hW => ⟨_, rfl, by rw [show i = pn by omega], ht⟩) (fun q h => nomatch h) d_X_setCount_31
      · have c_1 := mt (nI_leI (by omega) (by omega)).mpr c_1
        refine lv_aload_n hx hb d_X_setCount_12 rfl (lv_at hl 2 rfl) ?_
        refine lv_iload_n hx hb d_X_setCount_13 rfl (lv_at hl 1 rfl) ?_
        refine r_X_closeOf hp (by omega) hx hb hml hown htB hK hP hl.1 (Nat.le_of_ble_eq_true rfl) ⟨Nat.le_of_ble_eq_true rfl, Nat.le_of_ble_eq_true rfl⟩ ⟨Nat.zero_le _, Nat.zero_le _⟩ d_X_setCount_14 ?_
        refine lv_iconst (v := -1) hx hb d_X_setCount_17 (by decide) ?_
        refine lv_icmp_eq (tgt := 24) hx hb d_X_setCount_18 (by decide) (fun c_2 => ?_) (fun c_2 => ?_)
        · have c_2 := (cl_m1 hp).mp c_2
          refine lv_iinc (v := nI (i + 1)) (lv' := [(2, .int (nI (i + 1))), (1, .int (nI (cs pt qt pn i))), (0, .ref h0)]) hx hb d_X_setCount_24 hl (k := 1) rfl (nI_add _ 1) (by decide) rfl (fun ls hl => ?_)
          refine lv_goto (tgt := 4) hx hb d_X_setCount_27 (by decide) ?_
          exact ih (i + 1) (by omega) (by omega) (by omega) ls (by have hl := lv_sub hl [1, 0, 2] rfl; rw [show cs pt qt pn (i + 1) = cs pt qt pn i by (conv => lhs; unfold cs); rw [if_pos ‹_›]]; exact hl)
        · have c_2 := mt (cl_m1 hp).mpr c_2
          refine lv_iinc (v := nI (cs pt qt pn i + 1)) (lv' := [(1, .int (nI (cs pt qt pn i + 1))), (2, .int (nI i)), (0, .ref h0)]) hx hb d_X_setCount_21 hl (k := 0) rfl (nI_add _ 1) (by decide) rfl (fun ls hl => ?_)
          refine lv_iinc (v := nI (i + 1)) (lv' := [(2, .int (nI (i + 1))), (1, .int (nI (cs pt qt pn i + 1))), (0, .ref h0)]) hx hb d_X_setCount_24 hl (k := 1) rfl (nI_add _ 1) (by decide) rfl (fun ls hl => ?_)
          refine lv_goto (tgt := 4) hx hb d_X_setCount_27 (by decide) ?_
          exact ih (i + 1) (by omega) (by omega) (by omega) ls (by have hl := lv_sub hl [1, 0, 2] rfl; rw [show cs pt qt pn (i + 1) = cs pt qt pn i + 1 by (conv => lhs; unfold cs); rw [if_neg ‹_›]]; exact hl)
  refine lv_iconst (v := nI 0) hx hb d_X_setCount_0 (by decide) ?_
  refine lv_istore_n (lv' := [(1, .int (nI 0)), (0, .ref h0)]) hx hb d_X_setCount_1 rfl hl (by decide) rfl (fun ls hl => ?_)
  refine lv_iconst (v := nI 0) hx hb d_X_setCount_2 (by decide) ?_
  refine lv_istore_n (lv' := [(2, .int (nI 0)), (1, .int (nI 0)), (0, .ref h0)]) hx hb d_X_setCount_3 rfl hl (by decide) rfl (fun ls hl => ?_)
  exact loop 1001 0 (by omega) (by omega) (by omega) ls (lv_sub hl [1, 0, 2] rfl)

theorem r_X_setCount {p : Program} {l : Launch} {e : Env} {R : Room} {s : State} {mm : MethodId} {args : Array Value} {below : List Frame} {meth : Method} {c : Code} {H : Heap} {locs : List Loc} {cells slots : Nat} {Q : State → Prop} {cc : ByteArray} {pcn nL : Nat} {ls : Array Slot} {rest : List Value} {dC : Nat → ClassId} {dI : Nat → Nat → Nat} {h0 a1 a2 a3 a4 : Nat} {cI cZ : ClassId} {tx pt qt sr : Nat → Int32} {tn pn : Nat} (hp : pn ≤ 200) (hx : p.tables.exec = Jvm.exec) (hb : c.code = cc) (hml : c.maxLocals = nL) (hown : s.vm.findClass R_X = some mm.cls) (htB : ∀ w ∈ wB, w.before args s = true) (hK : va_K (dC, dI) classes (tyIZ cI cZ) s) (hP : va_P (dC, dI) classes (wX h0 a1 a2 a3 a4 cI cZ tx pt qt sr tn pn) H) (hls : ls.size = nL) (hre : (rest.map fun v => v.category).sum ≤ 8) (hR : 3 + 1 ≤ R.frames ∧ 8 + (3 + 11) + 66 ≤ R.locals) (hce : cells ≤ R.cells ∧ slots ≤ R.slots) (hd : decode cc pcn = .ok (.invokevirtual 64, 3)) (kk : W p l e R s mm args below meth c H locs cells slots Q (F0 mm (pcn + 3) ls (.int (nI (cs pt qt pn pn)) :: rest))) : W p l e R s mm args below meth c H locs cells slots Q (F0 mm pcn ls (.ref h0 :: rest)) := by
  refine vp_callSi (va_Run.run (va_runV (As := []) (rest := rest) ⟨hx, hb, hml, hown, htB⟩ (c_X_setCount l dC dI h0 a1 a2 a3 a4 cI cZ tx pt qt sr tn pn hp) (cwV 0 htB (gV hml_X_64 hinm_X_setCount hsel_X_setCount hini_X hco_X_setCount) rfl rfl rfl (by decide +kernel) hR) ⟨fun a U g mk q => by obtain ⟨q0, qP, qK⟩ := q; exact ⟨q0, qP, va_K.moved (u := U) (U := U.calling g mk a) (Vm.Alike.refl U.vm) qK⟩, va_recv hK hP (ci := 0) (q0 := 0) rfl rfl, fun U hU hW => ⟨rfl, by rw [hU]; exact hP, va_K.moved hW.alike hK⟩⟩ rfl rfl hls rfl (lv_room hre) hd ⟨hce.1, hce.2⟩)) (fun r hr => ?_)
  rw [hr]; exact kk

set_option maxHeartbeats 4000000 in
set_option maxRecDepth 100000 in
theorem c_X_isSpecial (l : Launch) (dC : Nat → ClassId) (dI : Nat → Nat → Nat) (h0 a1 a2 a3 a4 : Nat) (cI cZ : ClassId) (tx pt qt sr : Nat → Int32) (tn pn : Nat) (hp : pn ≤ 200) : Met l y_X_isSpecial (.code y_X_isSpecial b_X_isSpecial 2 (some .boolean) :: wB) (Rm 1 22) (va_Pc [.ref h0] (fun U => va_P (dC, dI) classes (wX h0 a1 a2 a3 a4 cI cZ tx pt qt sr tn pn) U.heap ∧ va_K (dC, dI) classes (tyIZ cI cZ) U)) (vp_Si (fun r => r = bI (sp pt qt pn pn))) 0 0 (fun _ => False) := by
  refine Met.ofW (cc := b_X_isSpecial) (maxL := 2) (ret := (some .boolean)) (by decide) rfl ?_
  intro p e s mm args below meth c s₁ B hml hv
  obtain ⟨rfl, hP, hK⟩ := hv
  have hx := B.exec
  have hb := B.bytes
  have hr := B.returns
  have hts := atoms_spec (ws := (.code y_X_isSpecial b_X_isSpecial 2 (some .boolean) :: wB)) B.pre
  have htB : ∀ w ∈ wB, w.before _ s = true := fun w h => hts w (List.mem_cons_of_mem _ h)
  have hown : s.vm.findClass R_X = some mm.cls := findClass_of_methodNamed B.named
  have hlocks := B.notSynchronized
  have hl := lv_entry ([.ref h0]) (n := 2) (Nat.le_of_ble_eq_true rfl)
  rw [lg_entry_eq]
  generalize (lg_sl ([.ref h0]) ++ List.replicate (2 - (lg_sl ([.ref h0])).length) Slot.unset).toArray = ls at hl ⊢
  have hl : lv_has ls 2 [(0, .ref h0)] := hl
  have loop : ∀ (n i : Nat), i ≤ 1000 → 1000 < i + n → i ≤ pn → sp pt qt pn i = false → ∀ ls : Array Slot, lv_has ls 2 [(1, .int (nI i)), (0, .ref h0)] → W p l e (Rm 1 22) s mm [.ref h0].toArray below meth c s.heap [] 0 0 (MQ below (vp_Si (fun r => r = bI (sp pt qt pn pn))) [.ref h0].toArray s 0 0 (fun _ => False)) (F0 mm 2 ls []) := by
    intro n
    induction n with
    | zero => intro i h1 h2; exact absurd h2 (by omega)
    | succ n ih =>
      intro i hi hn hip hE ls hl
      refine lv_iload_n hx hb d_X_isSpecial_2 rfl (lv_at hl 0 rfl) ?_
      refine lv_aload_n hx hb d_X_isSpecial_3 rfl (lv_at hl 1 rfl) ?_
      refine va_get (D := (dC, dI)) (ci := 0) (v := .int (nI pn)) (C := R_X) (T := F_X) (N := 6) hx hb htB in_X hown hK hP 0 rfl rfl 4 (by decide) (htB _ hfl_X_24) (fun _ h9 => h9) rfl d_X_isSpecial_4 ?_
      refine lv_icmp_ge (tgt := 48) hx hb d_X_isSpecial_7 (by decide) (fun c_1 => ?_) (fun c_1 => ?_)
      · have c_1 := (nI_leI (by omega) (by omega)).mp c_1
        refine lv_iconst (v := nI 0) hx hb d_X_isSpecial_48 (by decide) ?_
        exact W.zret (v := nI 0) hx hb hr (by rfl) (fun t ht hW => ⟨_, rfl, by rw [show i = pn by omega] at hE; rw [hE]; rfl, ht⟩) (fun q h => nomatch h) d_X_isSpecial_49
      · have c_1 := mt (nI_leI (by omega) (by omega)).mpr c_1
        refine lv_aload_n hx hb d_X_isSpecial_10 rfl (lv_at hl 1 rfl) ?_
        refine lv_iload_n hx hb d_X_isSpecial_11 rfl (lv_at hl 0 rfl) ?_
        refine lv_bipush (v := nI 42) hx hb d_X_isSpecial_12 (by decide) ?_
        refine r_X_isUnquoted hp (by omega) hx hb hml hown htB hK hP hl.1 (Nat.le_of_ble_eq_true rfl) ⟨Nat.le_of_ble_eq_true rfl, Nat.le_of_ble_eq_true rfl⟩ ⟨Nat.zero_le _, Nat.zero_le _⟩ d_X_isSpecial_14 ?_
        refine lv_if_ne (tgt := 40) hx hb d_X_isSpecial_17 (by decide) (fun c_2 => ?_) (fun c_2 => ?_)
        · have c_2 := bI_nz.mp c_2
          refine lv_iconst (v := nI 1) hx hb d_X_isSpecial_40 (by decide) ?_
          exact W.zret (v := nI 1) hx hb hr (by rfl) (fun t ht hW => ⟨_, rfl, by rw [sp_t (i := i) (by simp only [sa]; first | rw [‹iu pt qt pn i (nI 42) = true›, Bool.true_or] | rw [‹iu pt qt pn i (nI 63) = true›, Bool.true_or, Bool.or_true] | rw [‹iu pt qt pn i (nI 91) = true›, Bool.or_true, Bool.or_true]) (by omega)]; rfl, ht⟩) (fun q h => nomatch h) d_X_isSpecial_41
        · have c_2 := bI_z.mp c_2
          refine lv_aload_n hx hb d_X_isSpecial_20 rfl (lv_at hl 1 rfl) ?_
          refine lv_iload_n hx hb d_X_isSpecial_21 rfl (lv_at hl 0 rfl) ?_
          refine lv_bipush (v := nI 63) hx hb d_X_isSpecial_22 (by decide) ?_
          refine r_X_isUnquoted hp (by omega) hx hb hml hown htB hK hP hl.1 (Nat.le_of_ble_eq_true rfl) ⟨Nat.le_of_ble_eq_true rfl, Nat.le_of_ble_eq_true rfl⟩ ⟨Nat.zero_le _, Nat.zero_le _⟩ d_X_isSpecial_24 ?_
          refine lv_if_ne (tgt := 40) hx hb d_X_isSpecial_27 (by decide) (fun c_3 => ?_) (fun c_3 => ?_)
          · have c_3 := bI_nz.mp c_3
            refine lv_iconst (v := nI 1) hx hb d_X_isSpecial_40 (by decide) ?_
            exact W.zret (v := nI 1) hx hb hr (by rfl) (fun t ht hW => ⟨_, rfl, by rw [sp_t (i := i) (by simp only [sa]; first | rw [‹iu pt qt pn i (nI 42) = true›, Bool.true_or] | rw [‹iu pt qt pn i (nI 63) = true›, Bool.true_or, Bool.or_true] | rw [‹iu pt qt pn i (nI 91) = true›, Bool.or_true, Bool.or_true]) (by omega)]; rfl, ht⟩) (fun q h => nomatch h) d_X_isSpecial_41
          · have c_3 := bI_z.mp c_3
            refine lv_aload_n hx hb d_X_isSpecial_30 rfl (lv_at hl 1 rfl) ?_
            refine lv_iload_n hx hb d_X_isSpecial_31 rfl (lv_at hl 0 rfl) ?_
            refine lv_bipush (v := nI 91) hx hb d_X_isSpecial_32 (by decide) ?_
            refine r_X_isUnquoted hp (by omega) hx hb hml hown htB hK hP hl.1 (Nat.le_of_ble_eq_true rfl) ⟨Nat.le_of_ble_eq_true rfl, Nat.le_of_ble_eq_true rfl⟩ ⟨Nat.zero_le _, Nat.zero_le _⟩ d_X_isSpecial_34 ?_
            refine lv_if_eq (tgt := 42) hx hb d_X_isSpecial_37 (by decide) (fun c_4 => ?_) (fun c_4 => ?_)
            · have c_4 := bI_z.mp c_4
              refine lv_iinc (v := nI (i + 1)) (lv' := [(1, .int (nI (i + 1))), (0, .ref h0)]) hx hb d_X_isSpecial_42 hl (k := 0) rfl (nI_add _ 1) (by decide) rfl (fun ls hl => ?_)
              refine lv_goto (tgt := 2) hx hb d_X_isSpecial_45 (by decide) ?_
              exact ih (i + 1) (by omega) (by omega) (by omega) (by unfold sp; rw [hE]; simp only [sa]; rw [‹iu pt qt pn i (nI 42) = false›, ‹iu pt qt pn i (nI 63) = false›, ‹iu pt qt pn i (nI 91) = false›]; rfl) ls hl
            · have c_4 := bI_nz.mp c_4
              refine lv_iconst (v := nI 1) hx hb d_X_isSpecial_40 (by decide) ?_
              exact W.zret (v := nI 1) hx hb hr (by rfl) (fun t ht hW => ⟨_, rfl, by rw [sp_t (i := i) (by simp only [sa]; first | rw [‹iu pt qt pn i (nI 42) = true›, Bool.true_or] | rw [‹iu pt qt pn i (nI 63) = true›, Bool.true_or, Bool.or_true] | rw [‹iu pt qt pn i (nI 91) = true›, Bool.or_true, Bool.or_true]) (by omega)]; rfl, ht⟩) (fun q h => nomatch h) d_X_isSpecial_41
  refine lv_iconst (v := nI 0) hx hb d_X_isSpecial_0 (by decide) ?_
  refine lv_istore_n (lv' := [(1, .int (nI 0)), (0, .ref h0)]) hx hb d_X_isSpecial_1 rfl hl (by decide) rfl (fun ls hl => ?_)
  exact loop 1001 0 (by omega) (by omega) (by omega) rfl ls hl
end
section
/-! the row of beginnings, as a function: a place's beginning, or none -/
/-- the row behind a *: from frm on the best so far -/
def tar (b : Bool) (g : Nat → Option Nat) (frm : Nat) : Nat → Option Nat
  | 0 => g frm
  | i + 1 => btr b (tar b g frm i) (g (frm + i + 1))
/-- the row's place behind i, behind a sign that takes one -/
def tk (tx pt qt : Nat → Int32) (pn a : Nat) (o : Option Nat) (g : Nat → Option Nat) (i : Nat) : Option Nat := if ft pt qt pn a o (tx i) = true then g i else none
/-- the row behind the sign at a -/
def sg (tx pt qt : Nat → Int32) (pn : Nat) (b : Bool) (frm : Nat) (g : Nat → Option Nat) (a : Nat) : Nat → Option Nat := fun j =>
  if iu pt qt pn a (nI 42) = true then (if j < frm then g j else tar b g frm (j - frm)) else if j ≤ frm then none else tk tx pt qt pn a (cl pt qt pn a) g (j - 1)
/-- where the next sign begins -/
def nx (pt qt : Nat → Int32) (pn a : Nat) : Nat := match cl pt qt pn a with
  | none => a + 1
  | some k => k + 1
theorem nx_gt (pt qt : Nat → Int32) (pn a : Nat) : a + 1 ≤ nx pt qt pn a := by
  unfold nx
  cases h : cl pt qt pn a with
  | none => exact Nat.le_refl _
  | some k => have := cl_in h; show a + 1 ≤ k + 1; omega
theorem nx_le {pt qt : Nat → Int32} {pn a : Nat} (ha : a < pn) : nx pt qt pn a ≤ pn := by
  unfold nx
  cases h : cl pt qt pn a with
  | none => exact ha
  | some k => have := cl_in h; show k + 1 ≤ pn; omega
/-- the row behind the whole pattern -/
def rdp (tx pt qt : Nat → Int32) (pn : Nat) (b : Bool) (frm : Nat) : Nat → Nat → (Nat → Option Nat) → (Nat → Option Nat)
  | 0, _, g => g
  | f + 1, a, g => if a < pn then rdp tx pt qt pn b frm f (nx pt qt pn a) (sg tx pt qt pn b frm g a) else g
theorem rdp_out {tx pt qt : Nat → Int32} {pn : Nat} {b : Bool} {frm a : Nat} {g : Nat → Option Nat} (h : pn ≤ a) : ∀ f, rdp tx pt qt pn b frm f a g = g
  | 0 => rfl
  | f + 1 => by unfold rdp; rw [if_neg (by omega)]
theorem rdp_more {tx pt qt : Nat → Int32} {pn : Nat} {b : Bool} {frm : Nat} : ∀ (f h a : Nat) (g : Nat → Option Nat), pn ≤ a + f → pn ≤ a + h → rdp tx pt qt pn b frm f a g = rdp tx pt qt pn b frm h a g
  | 0, h, a, g, h1, _ => by rw [rdp_out (by omega), rdp_out (by omega)]
  | f + 1, 0, a, g, _, h2 => by rw [rdp_out (by omega), rdp_out (by omega)]
  | f + 1, h + 1, a, g, h1, h2 => by
    unfold rdp
    have := nx_gt pt qt pn a
    split
    · exact rdp_more f h _ _ (by omega) (by omega)
    · rfl
theorem rdp_go {tx pt qt : Nat → Int32} {pn : Nat} {b : Bool} {frm a : Nat} {g : Nat → Option Nat} (h : a < pn) : rdp tx pt qt pn b frm (pn - a) a g = rdp tx pt qt pn b frm (pn - nx pt qt pn a) (nx pt qt pn a) (sg tx pt qt pn b frm g a) := by
  have := nx_gt pt qt pn a
  rw [show pn - a = (pn - a - 1) + 1 by omega]
  conv => lhs; unfold rdp
  rw [if_pos h]
  exact rdp_more _ _ _ _ (by omega) (by omega)
/-- small beginnings -/
def sml (g : Nat → Option Nat) : Prop := ∀ j k, g j = some k → k ≤ 400
theorem btr_sml {b : Bool} {o1 o2 : Option Nat} {N : Nat} (h1 : ∀ k, o1 = some k → k ≤ N) (h2 : ∀ k, o2 = some k → k ≤ N) : ∀ k, btr b o1 o2 = some k → k ≤ N := by
  intro k h
  cases o1 with
  | none => exact h2 k h
  | some x =>
    cases o2 with
    | none => exact h1 k h
    | some y =>
      have hx := h1 x rfl
      have hy := h2 y rfl
      simp only [btr, Option.some.injEq] at h
      subst h
      cases b
      · show max x y ≤ N; omega
      · show min x y ≤ N; omega
theorem tar_sml {b : Bool} {g : Nat → Option Nat} {frm : Nat} (h : sml g) : ∀ i k, tar b g frm i = some k → k ≤ 400
  | 0, k, q => h frm k q
  | i + 1, k, q => btr_sml (tar_sml h i) (h (frm + i + 1)) k q
theorem tk_sml {tx pt qt : Nat → Int32} {pn a : Nat} {o : Option Nat} {g : Nat → Option Nat} (h : sml g) (i : Nat) : ∀ k, tk tx pt qt pn a o g i = some k → k ≤ 400 := by
  intro k q
  unfold tk at q
  split at q
  · exact h i k q
  · cases q
theorem sg_sml {tx pt qt : Nat → Int32} {pn : Nat} {b : Bool} {frm a : Nat} {g : Nat → Option Nat} (h : sml g) : sml (sg tx pt qt pn b frm g a) := by
  intro j k q
  unfold sg at q
  split at q
  · split at q
    · exact h j k q
    · exact tar_sml h _ k q
  · split at q
    · cases q
    · exact tk_sml h _ k q
theorem oI_ne {o : Option Nat} (h : ∀ k, o = some k → k ≤ 1000) : oI o = -1 ↔ o = none := oI_m1 (fun k q => by have := h k q; omega)
/-- the rows that a match begins with -/
def gs (frm : Nat) : Nat → Option Nat := fun j => if j = frm then some frm else none
def ga : Nat → Option Nat := fun j => if j ≤ 400 then some j else none
theorem gs_sml {frm : Nat} (h : frm ≤ 400) : sml (gs frm) := by
  intro j k q
  unfold gs at q
  split at q
  · cases q; exact h
  · cases q
theorem ga_sml : sml ga := by
  intro j k q
  unfold ga at q
  split at q
  · cases q; assumption
  · cases q
theorem tar_go {b : Bool} {g : Nat → Option Nat} {frm i : Nat} (h : frm < i) : tar b g frm (i - frm) = btr b (tar b g frm (i - 1 - frm)) (g i) := by
  have e : i - frm = (i - 1 - frm) + 1 := by omega
  rw [e]
  show btr b (tar b g frm (i - 1 - frm)) (g (frm + (i - 1 - frm) + 1)) = _
  rw [show frm + (i - 1 - frm) + 1 = i by omega]
theorem mx_nx {pt qt : Nat → Int32} {pn a : Nat} (hp : pn ≤ 200) (ha : a < pn) : (if nI a < oI (cl pt qt pn a) then oI (cl pt qt pn a) else nI a) = nI (nx pt qt pn a - 1) := by
  unfold nx
  cases h : cl pt qt pn a with
  | none =>
    have h1 : ¬ nI a < oI none := by
      show ¬ nI a < -1
      intro q
      have q2 := Int32.lt_iff_toInt_lt.mp q
      rw [nI_toInt (by omega), show (-1 : Int32).toInt = -1 by decide] at q2
      omega
    rw [if_neg h1]; rfl
  | some k =>
    have hk := cl_in h
    rw [if_pos (show nI a < oI (some k) from nI_lt (by omega) (by omega))]
    rfl
/-- the first, or the last, place of the first i where f holds -/
def fnd (f : Nat → Bool) (lg : Bool) : Nat → Option Nat
  | 0 => none
  | i + 1 => if (f i && (lg || (fnd f lg i).isNone)) = true then some i else fnd f lg i
theorem fnd_lt {f : Nat → Bool} {lg : Bool} : ∀ {i k : Nat}, fnd f lg i = some k → k < i
  | 0, k, h => by simp [fnd] at h
  | i + 1, k, h => by
    unfold fnd at h
    split at h
    · cases h; omega
    · have := fnd_lt h; omega
/-- how long the end is that begins at o -/
def eI (tn : Nat) (o : Option Nat) : Int32 := match o with
  | none => -1
  | some k => nI tn - nI k
theorem rdp_sml {tx pt qt : Nat → Int32} {pn : Nat} {b : Bool} {frm : Nat} : ∀ {f a : Nat} {g : Nat → Option Nat}, sml g → sml (rdp tx pt qt pn b frm f a g)
  | 0, _, _, h => h
  | f + 1, a, g, h => by
    unfold rdp
    split
    · exact rdp_sml (sg_sml h)
    · exact h
theorem isS_n {o : Option Nat} (h : o = none) : nI 0 = bI o.isSome := by subst h; rfl
theorem isS_s {o : Option Nat} (h : ¬ o = none) : nI 1 = bI o.isSome := by
  cases o with
  | none => exact absurd rfl h
  | some k => rfl
/-- does the text from frm up to too match? -/
def mX (tx pt qt : Nat → Int32) (pn frm too : Nat) : Bool := (rdp tx pt qt pn false frm pn 0 (gs frm) too).isSome
theorem fnd_hit {f : Nat → Bool} {lg : Bool} {i : Nat} (h1 : f i = true) (h2 : lg = true ∨ fnd f lg i = none) : fnd f lg (i + 1) = some i := by
  conv => lhs; unfold fnd
  rw [if_pos]
  rcases h2 with h2 | h2 <;> simp [h1, h2]
theorem fnd_m1 {f : Nat → Bool} {lg : Bool} {i : Nat} (h1 : f i = false) : fnd f lg (i + 1) = fnd f lg i := by
  conv => lhs; unfold fnd
  rw [if_neg]
  simp [h1]
theorem fnd_m2 {f : Nat → Bool} {lg : Bool} {i : Nat} (h1 : lg = false) (h2 : ¬ fnd f lg i = none) : fnd f lg (i + 1) = fnd f lg i := by
  conv => lhs; unfold fnd
  rw [if_neg]
  subst h1
  cases q : fnd f false i with
  | none => exact absurd q h2
  | some k => simp
theorem fnd_none {f : Nat → Bool} {lg : Bool} {i : Nat} (hi : i ≤ 1000) : oI (fnd f lg i) = -1 ↔ fnd f lg i = none := oI_m1 (fun k q => by have := fnd_lt q; omega)
theorem isS_f {o : Option Nat} (h : o = none) : o.isSome = false := by subst h; rfl
theorem isS_t {o : Option Nat} (h : ¬ o = none) : o.isSome = true := by
  cases o with
  | none => exact absurd rfl h
  | some k => rfl
/-- what count answers -/
def ctX (tn pn : Nat) (pt qt : Nat → Int32) (wh : Int32) : Int32 := if wh = nI 0 then nI tn else if wh = nI 1 then nI pn else if wh = nI 2 then nI (cq qt pn) else if wh = nI 3 then nI (cs pt qt pn pn) else -1
theorem out3 {x : Int32} (h0 : ¬ x = nI 0) (h1 : ¬ x = nI 1) (h2 : ¬ x = nI 2) (h3 : ¬ x = nI 3) : x.toInt < 0 ∨ 3 < x.toInt := by
  rcases (show x.toInt < 0 ∨ 0 ≤ x.toInt by omega) with q | q
  · exact Or.inl q
  · rcases (show 3 < x.toInt ∨ x.toInt ≤ 3 by omega) with q2 | q2
    · exact Or.inr q2
    · obtain ⟨j, hj, e⟩ := nI_of2 (x := x) (M := nI 3) (n := 3) (nI_toInt (by decide)) (by rw [Int32.lt_iff_toInt_lt, Int32.toInt_zero]; omega) (by rw [Int32.le_iff_toInt_le, nI_toInt (by decide)]; omega)
      rcases (show j = 0 ∨ j = 1 ∨ j = 2 ∨ j = 3 by omega) with rfl | rfl | rfl | rfl
      · exact absurd e h0
      · exact absurd e h1
      · exact absurd e h2
      · exact absurd e h3
end
section
/-! the class: methods that change the row: by wip/whole/gen/gen10.py -/
set_option maxHeartbeats 4000000 in
set_option maxRecDepth 100000 in
theorem c_X_startOnlyAt (l : Launch) (dC : Nat → ClassId) (dI : Nat → Nat → Nat) (h0 a1 a2 a3 a4 : Nat) (cI cZ : ClassId) (tx pt qt sr : Nat → Int32) (tn pn : Nat) (sz : Nat) (frm too : Nat) (hft : frm ≤ too) (ht4 : too ≤ 400) : Met l y_X_startOnlyAt (.code y_X_startOnlyAt b_X_startOnlyAt 4 none :: wB) (Rm 0 0) (va_Pc [.ref h0, .int (nI frm), .int (nI too)] (fun U => U.heap.size = sz ∧ va_P (dC, dI) classes (wX h0 a1 a2 a3 a4 cI cZ tx pt qt sr tn pn) U.heap ∧ va_K (dC, dI) classes (tyIZ cI cZ) U ∧ va_D (fun _ => True) (wX h0 a1 a2 a3 a4 cI cZ tx pt qt sr tn pn))) (va_Qv (fun (su : Nat → Int32) => su frm = nI frm ∧ ∀ j, frm < j → j ≤ too → su j = -1) (fun (su : Nat → Int32) (t : State) => va_P (dC, dI) classes (wX h0 a1 a2 a3 a4 cI cZ tx pt qt su tn pn) t.heap ∧ va_K (dC, dI) classes (tyIZ cI cZ) t ∧ va_D (va_A (wX h0 a1 a2 a3 a4 cI cZ tx pt qt sr tn pn) sz) (wX h0 a1 a2 a3 a4 cI cZ tx pt qt su tn pn)) (va_A (wX h0 a1 a2 a3 a4 cI cZ tx pt qt sr tn pn) sz)) 0 0 (va_A (wX h0 a1 a2 a3 a4 cI cZ tx pt qt sr tn pn) sz) := by
  refine Met.ofW (cc := b_X_startOnlyAt) (maxL := 4) (ret := none) (by decide) rfl ?_
  intro p e s mm args below meth c s₁ B hml hv
  obtain ⟨rfl, hsz, hP, hK, hD0⟩ := hv
  have hx := B.exec
  have hb := B.bytes
  have hr := B.returns
  have hts := atoms_spec (ws := (.code y_X_startOnlyAt b_X_startOnlyAt 4 none :: wB)) B.pre
  have htB : ∀ w ∈ wB, w.before _ s = true := fun w h => hts w (List.mem_cons_of_mem _ h)
  have hown : s.vm.findClass R_X = some mm.cls := findClass_of_methodNamed B.named
  have hlocks := B.notSynchronized
  subst hsz
  have hD := hD0.self (sz := s.heap.size)
  generalize hAe : va_A (wX h0 a1 a2 a3 a4 cI cZ tx pt qt sr tn pn) s.heap.size = A at hD ⊢
  have hA : ∀ q : Nat, s.heap.size ≤ q → A q := fun q h => by rw [← hAe]; exact Or.inr h
  have hS : va_S A s.heap s.heap [] := va_S.rf
  have hP : va_P (dC, dI) classes (wX h0 a1 a2 a3 a4 cI cZ tx pt qt sr tn pn) s.heap := hP
  have hl := lv_entry ([.ref h0, .int (nI frm), .int (nI too)]) (n := 4) (Nat.le_of_ble_eq_true rfl)
  rw [lg_entry_eq]
  generalize (lg_sl ([.ref h0, .int (nI frm), .int (nI too)]) ++ List.replicate (4 - (lg_sl ([.ref h0, .int (nI frm), .int (nI too)])).length) Slot.unset).toArray = ls at hl ⊢
  have hl : lv_has ls 4 [(0, .ref h0), (1, .int (nI frm)), (2, .int (nI too))] := hl
  have loop : ∀ (n i : Nat) (sv : Nat → Int32) (H : Heap) (locs : List Loc), i ≤ 1000 → 1000 < i + n → frm < i → sv frm = nI frm → (∀ j, frm < j → j < i → sv j = -1) → va_P (dC, dI) classes (wX h0 a1 a2 a3 a4 cI cZ tx pt qt sv tn pn) H → va_D A (wX h0 a1 a2 a3 a4 cI cZ tx pt qt sv tn pn) → va_S A s.heap H locs → ∀ ls : Array Slot, lv_has ls 4 [(3, .int (nI i)), (0, .ref h0), (1, .int (nI frm)), (2, .int (nI too))] → W p l e (Rm 0 0) s mm [.ref h0, .int (nI frm), .int (nI too)].toArray below meth c H locs 0 0 (MQ below (va_Qv (fun (su : Nat → Int32) => su frm = nI frm ∧ ∀ j, frm < j → j ≤ too → su j = -1) (fun (su : Nat → Int32) (t : State) => va_P (dC, dI) classes (wX h0 a1 a2 a3 a4 cI cZ tx pt qt su tn pn) t.heap ∧ va_K (dC, dI) classes (tyIZ cI cZ) t ∧ va_D A (wX h0 a1 a2 a3 a4 cI cZ tx pt qt su tn pn)) A) [.ref h0, .int (nI frm), .int (nI too)].toArray s 0 0 A) (F0 mm 11 ls []) := by
    intro n
    induction n with
    | zero => intro i sv H locs h1 h2; exact absurd h2 (by omega)
    | succ n ih =>
      intro i sv H locs hi hn hfi hE1 hE2 hP hD hS ls hl
      refine lv_iload_n hx hb d_X_startOnlyAt_11 rfl (lv_at hl 0 rfl) ?_
      refine lv_iload_n hx hb d_X_startOnlyAt_12 rfl (lv_at hl 3 rfl) ?_
      refine lv_icmp_gt (tgt := 29) hx hb d_X_startOnlyAt_13 (by decide) (fun c_1 => ?_) (fun c_1 => ?_)
      · have c_1 := (nI_ltI (by omega) (by omega)).mp c_1
        exact W.vret hx hb hr (fun t ht hW => ⟨⟨sv, rfl, ⟨hE1, fun j q1 q2 => hE2 j q1 (by omega)⟩, by rw [ht]; exact hP, va_K.moved hW.alike hK, hD⟩, hS.F ht⟩) hS.2.2 d_X_startOnlyAt_29
      · have c_1 := mt (nI_ltI (by omega) (by omega)).mpr c_1
        refine lv_aload_n hx hb d_X_startOnlyAt_16 rfl (lv_at hl 1 rfl) ?_
        refine va_get (D := (dC, dI)) (ci := 0) (v := .ref a4) (C := R_X) (T := F_X) (N := 6) hx hb htB in_X hown hK hP 0 rfl rfl 5 (by decide) (htB _ hfl_X_27) (fun _ h9 => h9) rfl d_X_startOnlyAt_17 ?_
        refine lv_iload_n hx hb d_X_startOnlyAt_20 rfl (lv_at hl 0 rfl) ?_
        refine lv_iconst (v := -1) hx hb d_X_startOnlyAt_21 (by decide) ?_
        refine va_iast hx hb hK hP hD hS 4 0 rfl rfl (vp_in_nI (n := i) (by omega) (by decide)) d_X_startOnlyAt_22 (fun H locs hP hD hS => ?_)
        rw [nI_clamp (n := i) (by omega)] at hP hD
        have hP : va_P (dC, dI) classes (wX h0 a1 a2 a3 a4 cI cZ tx pt qt (upd sv i (-1)) tn pn) H := hP
        have hD : va_D A (wX h0 a1 a2 a3 a4 cI cZ tx pt qt (upd sv i (-1)) tn pn) := hD
        refine lv_iinc (v := nI (i + 1)) (lv' := [(3, .int (nI (i + 1))), (0, .ref h0), (1, .int (nI frm)), (2, .int (nI too))]) hx hb d_X_startOnlyAt_23 hl (k := 0) rfl (nI_add _ 1) (by decide) rfl (fun ls hl => ?_)
        refine lv_goto (tgt := 11) hx hb d_X_startOnlyAt_26 (by decide) ?_
        refine ih (i + 1) _ _ _ (by omega) (by omega) (by omega) (by rw [pk_un (by omega)]; exact hE1) (fun j q1 q2 => ?_) hP hD hS ls hl
        by_cases q : j = i
        · subst q; exact pk_us
        · rw [pk_un q]; exact hE2 j q1 (by omega)
  refine lv_aload_n hx hb d_X_startOnlyAt_0 rfl (lv_at hl 0 rfl) ?_
  refine va_get (D := (dC, dI)) (ci := 0) (v := .ref a4) (C := R_X) (T := F_X) (N := 6) hx hb htB in_X hown hK hP 0 rfl rfl 5 (by decide) (htB _ hfl_X_27) (fun _ h9 => h9) rfl d_X_startOnlyAt_1 ?_
  refine lv_iload_n hx hb d_X_startOnlyAt_4 rfl (lv_at hl 1 rfl) ?_
  refine lv_iload_n hx hb d_X_startOnlyAt_5 rfl (lv_at hl 1 rfl) ?_
  refine va_iast hx hb hK hP hD hS 4 0 rfl rfl (vp_in_nI (n := frm) (by omega) (by decide)) d_X_startOnlyAt_6 (fun H locs hP hD hS => ?_)
  rw [nI_clamp (n := frm) (by omega)] at hP hD
  have hP : va_P (dC, dI) classes (wX h0 a1 a2 a3 a4 cI cZ tx pt qt (upd sr frm (nI frm)) tn pn) H := hP
  have hD : va_D A (wX h0 a1 a2 a3 a4 cI cZ tx pt qt (upd sr frm (nI frm)) tn pn) := hD
  refine lv_iload_n hx hb d_X_startOnlyAt_7 rfl (lv_at hl 1 rfl) ?_
  refine lv_iconst (v := nI 1) hx hb d_X_startOnlyAt_8 (by decide) ?_
  refine lv_iadd hx hb d_X_startOnlyAt_9 ?_
  refine lv_topi (fun v_1 ev_1 => ?_)
  obtain rfl : v_1 = nI (frm + 1) := ev_1.trans (nI_add _ _)
  refine lv_istore_n (lv' := [(3, .int (nI (frm + 1))), (0, .ref h0), (1, .int (nI frm)), (2, .int (nI too))]) hx hb d_X_startOnlyAt_10 rfl hl (by decide) rfl (fun ls hl => ?_)
  exact loop 1001 (frm + 1) _ _ _ (by omega) (by omega) (by omega) pk_us (fun j q1 q2 => absurd q1 (by omega)) hP hD hS ls hl

theorem r_X_startOnlyAt {p : Program} {l : Launch} {e : Env} {R : Room} {s : State} {mm : MethodId} {args : Array Value} {below : List Frame} {meth : Method} {c : Code} {H : Heap} {locs : List Loc} {cells slots : Nat} {Q : State → Prop} {cc : ByteArray} {pcn nL : Nat} {ls : Array Slot} {rest : List Value} {dC : Nat → ClassId} {dI : Nat → Nat → Nat} {h0 a1 a2 a3 a4 : Nat} {cI cZ : ClassId} {tx pt qt sr : Nat → Int32} {tn pn : Nat} {A : Nat → Prop} {H0 : Heap} {frm too : Nat} (hft : frm ≤ too) (ht4 : too ≤ 400) (hx : p.tables.exec = Jvm.exec) (hb : c.code = cc) (hml : c.maxLocals = nL) (hown : s.vm.findClass R_X = some mm.cls) (htB : ∀ w ∈ wB, w.before args s = true) (hK : va_K (dC, dI) classes (tyIZ cI cZ) s) (hP : va_P (dC, dI) classes (wX h0 a1 a2 a3 a4 cI cZ tx pt qt sr tn pn) H) (hD : va_D A (wX h0 a1 a2 a3 a4 cI cZ tx pt qt sr tn pn)) (hS : va_S A H0 H locs) (hA : ∀ q : Nat, H0.size ≤ q → A q) (hls : ls.size = nL) (hre : (rest.map fun v => v.category).sum ≤ 8) (hR : 0 + 1 ≤ R.frames ∧ 8 + (4 + 11) + 0 ≤ R.locals) (hce : cells ≤ R.cells ∧ slots ≤ R.slots) (hd : decode cc pcn = .ok (.invokevirtual 73, 3)) (kk : ∀ (su : Nat → Int32) (H1 : Heap) (locs1 : List Loc), (su frm = nI frm ∧ ∀ j, frm < j → j ≤ too → su j = -1) → va_P (dC, dI) classes (wX h0 a1 a2 a3 a4 cI cZ tx pt qt su tn pn) H1 → va_D A (wX h0 a1 a2 a3 a4 cI cZ tx pt qt su tn pn) → va_S A H0 H1 locs1 → W p l e R s mm args below meth c H1 locs1 cells slots Q (F0 mm (pcn + 3) ls (rest))) : W p l e R s mm args below meth c H locs cells slots Q (F0 mm pcn ls (.int (nI too) :: .int (nI frm) :: .ref h0 :: rest)) := by
  have hFc := va_free (wc := (wX h0 a1 a2 a3 a4 cI cZ tx pt qt sr tn pn)) hD hS hA [0, 1, 2, 3, 4] rfl
  refine va_callv (va_runV (As := [.int (nI frm), .int (nI too)]) (rest := rest) ⟨hx, hb, hml, hown, htB⟩ (c_X_startOnlyAt l dC dI h0 a1 a2 a3 a4 cI cZ tx pt qt sr tn pn H.size frm too hft ht4) (cwV 2 htB (gV hml_X_73 hinm_X_startOnlyAt hsel_X_startOnlyAt hini_X hco_X_startOnlyAt) rfl rfl rfl (by decide +kernel) hR) ⟨fun a U g mk q => by obtain ⟨q0, q1, qP, qK, qD⟩ := q; exact ⟨q0, q1, qP, va_K.moved (u := U) (U := U.calling g mk a) (Vm.Alike.refl U.vm) qK, qD⟩, va_recv hK hP (ci := 0) (q0 := 0) rfl rfl, fun U hU hW => ⟨rfl, by rw [hU], by rw [hU]; exact hP, va_K.moved hW.alike hK, hD.weaken (fun _ _ _ _ => trivial)⟩⟩ rfl rfl hls rfl (lv_room hre) hd ⟨hce.1, hce.2⟩) hS (fun q _ h => hFc q h) hFc (fun su t H1 locs1 ht hvm hw hB hz1 hk1 hS1 => ?_)
  obtain ⟨hP1, hK1, hD1⟩ := hB
  rw [ht] at hP1
  have hj := va_join (wr := []) (w1 := (wX h0 a1 a2 a3 a4 cI cZ tx pt qt su tn pn)) hP hD [0, 1, 2, 3, 4] [] rfl rfl (by decide) (by decide) hk1 hFc hP1 hD1
  exact kk su H1 locs1 hw hj.1 hj.2 hS1

set_option maxHeartbeats 4000000 in
set_option maxRecDepth 100000 in
theorem c_X_startAnywhere (l : Launch) (dC : Nat → ClassId) (dI : Nat → Nat → Nat) (h0 a1 a2 a3 a4 : Nat) (cI cZ : ClassId) (tx pt qt sr : Nat → Int32) (tn pn : Nat) (sz : Nat) (ht : tn ≤ 400) : Met l y_X_startAnywhere (.code y_X_startAnywhere b_X_startAnywhere 2 none :: wB) (Rm 0 0) (va_Pc [.ref h0] (fun U => U.heap.size = sz ∧ va_P (dC, dI) classes (wX h0 a1 a2 a3 a4 cI cZ tx pt qt sr tn pn) U.heap ∧ va_K (dC, dI) classes (tyIZ cI cZ) U ∧ va_D (fun _ => True) (wX h0 a1 a2 a3 a4 cI cZ tx pt qt sr tn pn))) (va_Qv (fun (su : Nat → Int32) => ∀ j, j ≤ tn → su j = nI j) (fun (su : Nat → Int32) (t : State) => va_P (dC, dI) classes (wX h0 a1 a2 a3 a4 cI cZ tx pt qt su tn pn) t.heap ∧ va_K (dC, dI) classes (tyIZ cI cZ) t ∧ va_D (va_A (wX h0 a1 a2 a3 a4 cI cZ tx pt qt sr tn pn) sz) (wX h0 a1 a2 a3 a4 cI cZ tx pt qt su tn pn)) (va_A (wX h0 a1 a2 a3 a4 cI cZ tx pt qt sr tn pn) sz)) 0 0 (va_A (wX h0 a1 a2 a3 a4 cI cZ tx pt qt sr tn pn) sz) := by
  refine Met.ofW (cc := b_X_startAnywhere) (maxL := 2) (ret := none) (by decide) rfl ?_
  intro p e s mm args below meth c s₁ B hml hv
  obtain ⟨rfl, hsz, hP, hK, hD0⟩ := hv
  have hx := B.exec
  have hb := B.bytes
  have hr := B.returns
  have hts := atoms_spec (ws := (.code y_X_startAnywhere b_X_startAnywhere 2 none :: wB)) B.pre
  have htB : ∀ w ∈ wB, w.before _ s = true := fun w h => hts w (List.mem_cons_of_mem _ h)
  have hown : s.vm.findClass R_X = some mm.cls := findClass_of_methodNamed B.named
  have hlocks := B.notSynchronized
  subst hsz
  have hD := hD0.self (sz := s.heap.size)
  generalize hAe : va_A (wX h0 a1 a2 a3 a4 cI cZ tx pt qt sr tn pn) s.heap.size = A at hD ⊢
  have hA : ∀ q : Nat, s.heap.size ≤ q → A q := fun q h => by rw [← hAe]; exact Or.inr h
  have hS : va_S A s.heap s.heap [] := va_S.rf
  have hP : va_P (dC, dI) classes (wX h0 a1 a2 a3 a4 cI cZ tx pt qt sr tn pn) s.heap := hP
  have hl := lv_entry ([.ref h0]) (n := 2) (Nat.le_of_ble_eq_true rfl)
  rw [lg_entry_eq]
  generalize (lg_sl ([.ref h0]) ++ List.replicate (2 - (lg_sl ([.ref h0])).length) Slot.unset).toArray = ls at hl ⊢
  have hl : lv_has ls 2 [(0, .ref h0)] := hl
  have loop : ∀ (n i : Nat) (sv : Nat → Int32) (H : Heap) (locs : List Loc), i ≤ 1000 → 1000 < i + n → (∀ j, j < i → sv j = nI j) → va_P (dC, dI) classes (wX h0 a1 a2 a3 a4 cI cZ tx pt qt sv tn pn) H → va_D A (wX h0 a1 a2 a3 a4 cI cZ tx pt qt sv tn pn) → va_S A s.heap H locs → ∀ ls : Array Slot, lv_has ls 2 [(1, .int (nI i)), (0, .ref h0)] → W p l e (Rm 0 0) s mm [.ref h0].toArray below meth c H locs 0 0 (MQ below (va_Qv (fun (su : Nat → Int32) => ∀ j, j ≤ tn → su j = nI j) (fun (su : Nat → Int32) (t : State) => va_P (dC, dI) classes (wX h0 a1 a2 a3 a4 cI cZ tx pt qt su tn pn) t.heap ∧ va_K (dC, dI) classes (tyIZ cI cZ) t ∧ va_D A (wX h0 a1 a2 a3 a4 cI cZ tx pt qt su tn pn)) A) [.ref h0].toArray s 0 0 A) (F0 mm 2 ls []) := by
    intro n
    induction n with
    | zero => intro i sv H locs h1 h2; exact absurd h2 (by omega)
    | succ n ih =>
      intro i sv H locs hi hn hE2 hP hD hS ls hl
      refine lv_iload_n hx hb d_X_startAnywhere_2 rfl (lv_at hl 0 rfl) ?_
      refine lv_aload_n hx hb d_X_startAnywhere_3 rfl (lv_at hl 1 rfl) ?_
      refine va_get (D := (dC, dI)) (ci := 0) (v := .int (nI tn)) (C := R_X) (T := F_X) (N := 6) hx hb htB in_X hown hK hP 0 rfl rfl 1 (by decide) (htB _ hfl_X_13) (fun _ h9 => h9) rfl d_X_startAnywhere_4 ?_
      refine lv_icmp_gt (tgt := 23) hx hb d_X_startAnywhere_7 (by decide) (fun c_1 => ?_) (fun c_1 => ?_)
      · have c_1 := (nI_ltI (by omega) (by omega)).mp c_1
        exact W.vret hx hb hr (fun t ht hW => ⟨⟨sv, rfl, fun j q => hE2 j (by omega), by rw [ht]; exact hP, va_K.moved hW.alike hK, hD⟩, hS.F ht⟩) hS.2.2 d_X_startAnywhere_23
      · have c_1 := mt (nI_ltI (by omega) (by omega)).mpr c_1
        refine lv_aload_n hx hb d_X_startAnywhere_10 rfl (lv_at hl 1 rfl) ?_
        refine va_get (D := (dC, dI)) (ci := 0) (v := .ref a4) (C := R_X) (T := F_X) (N := 6) hx hb htB in_X hown hK hP 0 rfl rfl 5 (by decide) (htB _ hfl_X_27) (fun _ h9 => h9) rfl d_X_startAnywhere_11 ?_
        refine lv_iload_n hx hb d_X_startAnywhere_14 rfl (lv_at hl 0 rfl) ?_
        refine lv_iload_n hx hb d_X_startAnywhere_15 rfl (lv_at hl 0 rfl) ?_
        refine va_iast hx hb hK hP hD hS 4 0 rfl rfl (vp_in_nI (n := i) (by omega) (by decide)) d_X_startAnywhere_16 (fun H locs hP hD hS => ?_)
        rw [nI_clamp (n := i) (by omega)] at hP hD
        have hP : va_P (dC, dI) classes (wX h0 a1 a2 a3 a4 cI cZ tx pt qt (upd sv i (nI i)) tn pn) H := hP
        have hD : va_D A (wX h0 a1 a2 a3 a4 cI cZ tx pt qt (upd sv i (nI i)) tn pn) := hD
        refine lv_iinc (v := nI (i + 1)) (lv' := [(1, .int (nI (i + 1))), (0, .ref h0)]) hx hb d_X_startAnywhere_17 hl (k := 0) rfl (nI_add _ 1) (by decide) rfl (fun ls hl => ?_)
        refine lv_goto (tgt := 2) hx hb d_X_startAnywhere_20 (by decide) ?_
        refine ih (i + 1) _ _ _ (by omega) (by omega) (fun j q2 => ?_) hP hD hS ls hl
        by_cases q : j = i
        · subst q; exact pk_us
        · rw [pk_un q]; exact hE2 j (by omega)
  refine lv_iconst (v := nI 0) hx hb d_X_startAnywhere_0 (by decide) ?_
  refine lv_istore_n (lv' := [(1, .int (nI 0)), (0, .ref h0)]) hx hb d_X_startAnywhere_1 rfl hl (by decide) rfl (fun ls hl => ?_)
  exact loop 1001 0 _ _ _ (by omega) (by omega) (fun j q1 => absurd q1 (by omega)) hP hD hS ls hl

theorem r_X_startAnywhere {p : Program} {l : Launch} {e : Env} {R : Room} {s : State} {mm : MethodId} {args : Array Value} {below : List Frame} {meth : Method} {c : Code} {H : Heap} {locs : List Loc} {cells slots : Nat} {Q : State → Prop} {cc : ByteArray} {pcn nL : Nat} {ls : Array Slot} {rest : List Value} {dC : Nat → ClassId} {dI : Nat → Nat → Nat} {h0 a1 a2 a3 a4 : Nat} {cI cZ : ClassId} {tx pt qt sr : Nat → Int32} {tn pn : Nat} {A : Nat → Prop} {H0 : Heap} (ht : tn ≤ 400) (hx : p.tables.exec = Jvm.exec) (hb : c.code = cc) (hml : c.maxLocals = nL) (hown : s.vm.findClass R_X = some mm.cls) (htB : ∀ w ∈ wB, w.before args s = true) (hK : va_K (dC, dI) classes (tyIZ cI cZ) s) (hP : va_P (dC, dI) classes (wX h0 a1 a2 a3 a4 cI cZ tx pt qt sr tn pn) H) (hD : va_D A (wX h0 a1 a2 a3 a4 cI cZ tx pt qt sr tn pn)) (hS : va_S A H0 H locs) (hA : ∀ q : Nat, H0.size ≤ q → A q) (hls : ls.size = nL) (hre : (rest.map fun v => v.category).sum ≤ 8) (hR : 0 + 1 ≤ R.frames ∧ 8 + (2 + 11) + 0 ≤ R.locals) (hce : cells ≤ R.cells ∧ slots ≤ R.slots) (hd : decode cc pcn = .ok (.invokevirtual 81, 3)) (kk : ∀ (su : Nat → Int32) (H1 : Heap) (locs1 : List Loc), (∀ j, j ≤ tn → su j = nI j) → va_P (dC, dI) classes (wX h0 a1 a2 a3 a4 cI cZ tx pt qt su tn pn) H1 → va_D A (wX h0 a1 a2 a3 a4 cI cZ tx pt qt su tn pn) → va_S A H0 H1 locs1 → W p l e R s mm args below meth c H1 locs1 cells slots Q (F0 mm (pcn + 3) ls (rest))) : W p l e R s mm args below meth c H locs cells slots Q (F0 mm pcn ls (.ref h0 :: rest)) := by
  have hFc := va_free (wc := (wX h0 a1 a2 a3 a4 cI cZ tx pt qt sr tn pn)) hD hS hA [0, 1, 2, 3, 4] rfl
  refine va_callv (va_runV (As := []) (rest := rest) ⟨hx, hb, hml, hown, htB⟩ (c_X_startAnywhere l dC dI h0 a1 a2 a3 a4 cI cZ tx pt qt sr tn pn H.size ht) (cwV 0 htB (gV hml_X_81 hinm_X_startAnywhere hsel_X_startAnywhere hini_X hco_X_startAnywhere) rfl rfl rfl (by decide +kernel) hR) ⟨fun a U g mk q => by obtain ⟨q0, q1, qP, qK, qD⟩ := q; exact ⟨q0, q1, qP, va_K.moved (u := U) (U := U.calling g mk a) (Vm.Alike.refl U.vm) qK, qD⟩, va_recv hK hP (ci := 0) (q0 := 0) rfl rfl, fun U hU hW => ⟨rfl, by rw [hU], by rw [hU]; exact hP, va_K.moved hW.alike hK, hD.weaken (fun _ _ _ _ => trivial)⟩⟩ rfl rfl hls rfl (lv_room hre) hd ⟨hce.1, hce.2⟩) hS (fun q _ h => hFc q h) hFc (fun su t H1 locs1 ht hvm hw hB hz1 hk1 hS1 => ?_)
  obtain ⟨hP1, hK1, hD1⟩ := hB
  rw [ht] at hP1
  have hj := va_join (wr := []) (w1 := (wX h0 a1 a2 a3 a4 cI cZ tx pt qt su tn pn)) hP hD [0, 1, 2, 3, 4] [] rfl rfl (by decide) (by decide) hk1 hFc hP1 hD1
  exact kk su H1 locs1 hw hj.1 hj.2 hS1
end
section
/-! the class: the row behind a sign, behind the pattern: by wip/whole/gen/gen11.py -/
set_option maxHeartbeats 4000000 in
set_option maxRecDepth 100000 in
theorem c_X_takeAnyRow (l : Launch) (dC : Nat → ClassId) (dI : Nat → Nat → Nat) (h0 a1 a2 a3 a4 : Nat) (cI cZ : ClassId) (tx pt qt sr : Nat → Int32) (tn pn : Nat) (sz : Nat) (frm too : Nat) (hft : frm ≤ too) (ht4 : too ≤ 400) (b : Bool) (g : Nat → Option Nat) (hg : sml g) (hsr : ∀ j, frm ≤ j → j ≤ too → sr j = oI (g j)) : Met l y_X_takeAnyRow (.code y_X_takeAnyRow b_X_takeAnyRow 5 none :: wB) (Rm 2 52) (va_Pc [.ref h0, .int (nI frm), .int (nI too), .int (bI b)] (fun U => U.heap.size = sz ∧ va_P (dC, dI) classes (wX h0 a1 a2 a3 a4 cI cZ tx pt qt sr tn pn) U.heap ∧ va_K (dC, dI) classes (tyIZ cI cZ) U ∧ va_D (fun _ => True) (wX h0 a1 a2 a3 a4 cI cZ tx pt qt sr tn pn))) (va_Qv (fun (su : Nat → Int32) => ∀ j, frm ≤ j → j ≤ too → su j = oI (tar b g frm (j - frm))) (fun (su : Nat → Int32) (t : State) => va_P (dC, dI) classes (wX h0 a1 a2 a3 a4 cI cZ tx pt qt su tn pn) t.heap ∧ va_K (dC, dI) classes (tyIZ cI cZ) t ∧ va_D (va_A (wX h0 a1 a2 a3 a4 cI cZ tx pt qt sr tn pn) sz) (wX h0 a1 a2 a3 a4 cI cZ tx pt qt su tn pn)) (va_A (wX h0 a1 a2 a3 a4 cI cZ tx pt qt sr tn pn) sz)) 0 0 (va_A (wX h0 a1 a2 a3 a4 cI cZ tx pt qt sr tn pn) sz) := by
  refine Met.ofW (cc := b_X_takeAnyRow) (maxL := 5) (ret := none) (by decide) rfl ?_
  intro p e s mm args below meth c s₁ B hml hv
  obtain ⟨rfl, hsz, hP, hK, hD0⟩ := hv
  have hx := B.exec
  have hb := B.bytes
  have hr := B.returns
  have hts := atoms_spec (ws := (.code y_X_takeAnyRow b_X_takeAnyRow 5 none :: wB)) B.pre
  have htB : ∀ w ∈ wB, w.before _ s = true := fun w h => hts w (List.mem_cons_of_mem _ h)
  have hown : s.vm.findClass R_X = some mm.cls := findClass_of_methodNamed B.named
  have hlocks := B.notSynchronized
  subst hsz
  have hD := hD0.self (sz := s.heap.size)
  generalize hAe : va_A (wX h0 a1 a2 a3 a4 cI cZ tx pt qt sr tn pn) s.heap.size = A at hD ⊢
  have hA : ∀ q : Nat, s.heap.size ≤ q → A q := fun q h => by rw [← hAe]; exact Or.inr h
  have hS : va_S A s.heap s.heap [] := va_S.rf
  have hP : va_P (dC, dI) classes (wX h0 a1 a2 a3 a4 cI cZ tx pt qt sr tn pn) s.heap := hP
  have hl := lv_entry ([.ref h0, .int (nI frm), .int (nI too), .int (bI b)]) (n := 5) (Nat.le_of_ble_eq_true rfl)
  rw [lg_entry_eq]
  generalize (lg_sl ([.ref h0, .int (nI frm), .int (nI too), .int (bI b)]) ++ List.replicate (5 - (lg_sl ([.ref h0, .int (nI frm), .int (nI too), .int (bI b)])).length) Slot.unset).toArray = ls at hl ⊢
  have hl : lv_has ls 5 [(0, .ref h0), (1, .int (nI frm)), (2, .int (nI too)), (3, .int (bI b))] := hl
  have loop : ∀ (n i : Nat) (sv : Nat → Int32) (H : Heap) (locs : List Loc), i ≤ 1000 → 1000 < i + n → frm < i → (∀ j, frm ≤ j → j < i → j ≤ too → sv j = oI (tar b g frm (j - frm))) → (∀ j, i ≤ j → j ≤ too → sv j = oI (g j)) → va_P (dC, dI) classes (wX h0 a1 a2 a3 a4 cI cZ tx pt qt sv tn pn) H → va_D A (wX h0 a1 a2 a3 a4 cI cZ tx pt qt sv tn pn) → va_S A s.heap H locs → ∀ ls : Array Slot, lv_has ls 5 [(4, .int (nI i)), (0, .ref h0), (1, .int (nI frm)), (2, .int (nI too)), (3, .int (bI b))] → W p l e (Rm 2 52) s mm [.ref h0, .int (nI frm), .int (nI too), .int (bI b)].toArray below meth c H locs 0 0 (MQ below (va_Qv (fun (su : Nat → Int32) => ∀ j, frm ≤ j → j ≤ too → su j = oI (tar b g frm (j - frm))) (fun (su : Nat → Int32) (t : State) => va_P (dC, dI) classes (wX h0 a1 a2 a3 a4 cI cZ tx pt qt su tn pn) t.heap ∧ va_K (dC, dI) classes (tyIZ cI cZ) t ∧ va_D A (wX h0 a1 a2 a3 a4 cI cZ tx pt qt su tn pn)) A) [.ref h0, .int (nI frm), .int (nI too), .int (bI b)].toArray s 0 0 A) (F0 mm 5 ls []) := by
    intro n
    induction n with
    | zero => intro i sv H locs h1 h2; exact absurd h2 (by omega)
    | succ n ih =>
      intro i sv H locs hi hn hfi hE1 hE2 hP hD hS ls hl
      refine lv_iload hx hb d_X_takeAnyRow_5 (lv_at hl 0 rfl) ?_
      refine lv_iload_n hx hb d_X_takeAnyRow_7 rfl (lv_at hl 3 rfl) ?_
      refine lv_icmp_gt (tgt := 44) hx hb d_X_takeAnyRow_8 (by decide) (fun c_1 => ?_) (fun c_1 => ?_)
      · have c_1 := (nI_ltI (by omega) (by omega)).mp c_1
        exact W.vret hx hb hr (fun t ht hW => ⟨⟨sv, rfl, fun j q1 q2 => hE1 j q1 (by omega) q2, by rw [ht]; exact hP, va_K.moved hW.alike hK, hD⟩, hS.F ht⟩) hS.2.2 d_X_takeAnyRow_44
      · have c_1 := mt (nI_ltI (by omega) (by omega)).mpr c_1
        refine lv_aload_n hx hb d_X_takeAnyRow_11 rfl (lv_at hl 1 rfl) ?_
        refine va_get (D := (dC, dI)) (ci := 0) (v := .ref a4) (C := R_X) (T := F_X) (N := 6) hx hb htB in_X hown hK hP 0 rfl rfl 5 (by decide) (htB _ hfl_X_27) (fun _ h9 => h9) rfl d_X_takeAnyRow_12 ?_
        refine lv_iload hx hb d_X_takeAnyRow_15 (lv_at hl 0 rfl) ?_
        refine lv_aload_n hx hb d_X_takeAnyRow_17 rfl (lv_at hl 1 rfl) ?_
        refine va_get (D := (dC, dI)) (ci := 0) (v := .ref a4) (C := R_X) (T := F_X) (N := 6) hx hb htB in_X hown hK hP 0 rfl rfl 5 (by decide) (htB _ hfl_X_27) (fun _ h9 => h9) rfl d_X_takeAnyRow_18 ?_
        refine lv_iload hx hb d_X_takeAnyRow_21 (lv_at hl 0 rfl) ?_
        refine lv_iconst (v := nI 1) hx hb d_X_takeAnyRow_23 (by decide) ?_
        refine lv_isub hx hb d_X_takeAnyRow_24 ?_
        refine lv_topi (fun v_2 ev_2 => ?_)
        obtain rfl : v_2 = nI (i - 1) := ev_2.trans (pk_sub (by omega))
        refine va_iald hx hb hK hP 4 0 rfl rfl (vp_in_nI (n := i - 1) (by omega) (by decide)) d_X_takeAnyRow_25 ?_
        refine lv_topi (fun v_3 ev_3 => ?_)
        obtain rfl : v_3 = oI (tar b g frm (i - 1 - frm)) := (show v_3 = sv (i - 1) from ev_3.trans (by rw [nI_clamp (n := i - 1) (by omega)])).trans (hE1 (i - 1) (by omega) (by omega) (by omega))
        refine lv_aload_n hx hb d_X_takeAnyRow_26 rfl (lv_at hl 1 rfl) ?_
        refine va_get (D := (dC, dI)) (ci := 0) (v := .ref a4) (C := R_X) (T := F_X) (N := 6) hx hb htB in_X hown hK hP 0 rfl rfl 5 (by decide) (htB _ hfl_X_27) (fun _ h9 => h9) rfl d_X_takeAnyRow_27 ?_
        refine lv_iload hx hb d_X_takeAnyRow_30 (lv_at hl 0 rfl) ?_
        refine va_iald hx hb hK hP 4 0 rfl rfl (vp_in_nI (n := i) (by omega) (by decide)) d_X_takeAnyRow_32 ?_
        refine lv_topi (fun v_4 ev_4 => ?_)
        obtain rfl : v_4 = oI (g i) := (show v_4 = sv i from ev_4.trans (by rw [nI_clamp (n := i) (by omega)])).trans (hE2 i (by omega) (by omega))
        refine lv_iload_n hx hb d_X_takeAnyRow_33 rfl (lv_at hl 4 rfl) ?_
        refine r_X_better (fun k q => Nat.le_trans (tar_sml hg _ k q) (by decide)) (fun k q => Nat.le_trans (hg _ k q) (by decide)) hx hb hml hown htB hl.1 (Nat.le_of_ble_eq_true rfl) ⟨Nat.le_of_ble_eq_true rfl, Nat.le_of_ble_eq_true rfl⟩ ⟨Nat.zero_le _, Nat.zero_le _⟩ d_X_takeAnyRow_34 ?_
        refine va_iast hx hb hK hP hD hS 4 0 rfl rfl (vp_in_nI (n := i) (by omega) (by decide)) d_X_takeAnyRow_37 (fun H locs hP hD hS => ?_)
        rw [nI_clamp (n := i) (by omega)] at hP hD
        have hP : va_P (dC, dI) classes (wX h0 a1 a2 a3 a4 cI cZ tx pt qt (upd sv i (oI (btr b ((tar b g frm (i - 1 - frm))) ((g i))))) tn pn) H := hP
        have hD : va_D A (wX h0 a1 a2 a3 a4 cI cZ tx pt qt (upd sv i (oI (btr b ((tar b g frm (i - 1 - frm))) ((g i))))) tn pn) := hD
        refine lv_iinc (v := nI (i + 1)) (lv' := [(4, .int (nI (i + 1))), (0, .ref h0), (1, .int (nI frm)), (2, .int (nI too)), (3, .int (bI b))]) hx hb d_X_takeAnyRow_38 hl (k := 0) rfl (nI_add _ 1) (by decide) rfl (fun ls hl => ?_)
        refine lv_goto (tgt := 5) hx hb d_X_takeAnyRow_41 (by decide) ?_
        refine ih (i + 1) _ _ _ (by omega) (by omega) (by omega) (fun j q1 q2 q3 => ?_) (fun j q1 q2 => ?_) hP hD hS ls (lv_sub hl [0, 1, 2, 3, 4] rfl)
        · by_cases q : j = i
          · subst q; rw [pk_us, tar_go hfi]
          · rw [pk_un q]; exact hE1 j q1 (by omega) q3
        · rw [pk_un (by omega)]; exact hE2 j (by omega) q2
  refine lv_iload_n hx hb d_X_takeAnyRow_0 rfl (lv_at hl 1 rfl) ?_
  refine lv_iconst (v := nI 1) hx hb d_X_takeAnyRow_1 (by decide) ?_
  refine lv_iadd hx hb d_X_takeAnyRow_2 ?_
  refine lv_topi (fun v_1 ev_1 => ?_)
  obtain rfl : v_1 = nI (frm + 1) := ev_1.trans (nI_add _ _)
  refine lv_istore (lv' := [(4, .int (nI (frm + 1))), (0, .ref h0), (1, .int (nI frm)), (2, .int (nI too)), (3, .int (bI b))]) hx hb d_X_takeAnyRow_3 hl (by decide) rfl (fun ls hl => ?_)
  refine loop 1001 (frm + 1) _ _ _ (by omega) (by omega) (by omega) (fun j q1 q2 q3 => ?_) (fun j q1 q2 => hsr j (by omega) q2) hP hD hS ls (lv_sub hl [0, 1, 2, 3, 4] rfl)
  obtain rfl : j = frm := by omega
  rw [hsr j (by omega) q3, Nat.sub_self]; rfl

theorem r_X_takeAnyRow {p : Program} {l : Launch} {e : Env} {R : Room} {s : State} {mm : MethodId} {args : Array Value} {below : List Frame} {meth : Method} {c : Code} {H : Heap} {locs : List Loc} {cells slots : Nat} {Q : State → Prop} {cc : ByteArray} {pcn nL : Nat} {ls : Array Slot} {rest : List Value} {dC : Nat → ClassId} {dI : Nat → Nat → Nat} {h0 a1 a2 a3 a4 : Nat} {cI cZ : ClassId} {tx pt qt sr : Nat → Int32} {tn pn : Nat} {A : Nat → Prop} {H0 : Heap} {frm too : Nat} (hft : frm ≤ too) (ht4 : too ≤ 400) {b : Bool} {g : Nat → Option Nat} (hg : sml g) (hsr : ∀ j, frm ≤ j → j ≤ too → sr j = oI (g j)) (hx : p.tables.exec = Jvm.exec) (hb : c.code = cc) (hml : c.maxLocals = nL) (hown : s.vm.findClass R_X = some mm.cls) (htB : ∀ w ∈ wB, w.before args s = true) (hK : va_K (dC, dI) classes (tyIZ cI cZ) s) (hP : va_P (dC, dI) classes (wX h0 a1 a2 a3 a4 cI cZ tx pt qt sr tn pn) H) (hD : va_D A (wX h0 a1 a2 a3 a4 cI cZ tx pt qt sr tn pn)) (hS : va_S A H0 H locs) (hA : ∀ q : Nat, H0.size ≤ q → A q) (hls : ls.size = nL) (hre : (rest.map fun v => v.category).sum ≤ 8) (hR : 2 + 1 ≤ R.frames ∧ 8 + (5 + 11) + 52 ≤ R.locals) (hce : cells ≤ R.cells ∧ slots ≤ R.slots) (hd : decode cc pcn = .ok (.invokevirtual 84, 3)) (kk : ∀ (su : Nat → Int32) (H1 : Heap) (locs1 : List Loc), (∀ j, frm ≤ j → j ≤ too → su j = oI (tar b g frm (j - frm))) → va_P (dC, dI) classes (wX h0 a1 a2 a3 a4 cI cZ tx pt qt su tn pn) H1 → va_D A (wX h0 a1 a2 a3 a4 cI cZ tx pt qt su tn pn) → va_S A H0 H1 locs1 → W p l e R s mm args below meth c H1 locs1 cells slots Q (F0 mm (pcn + 3) ls (rest))) : W p l e R s mm args below meth c H locs cells slots Q (F0 mm pcn ls (.int (bI b) :: .int (nI too) :: .int (nI frm) :: .ref h0 :: rest)) := by
  have hFc := va_free (wc := (wX h0 a1 a2 a3 a4 cI cZ tx pt qt sr tn pn)) hD hS hA [0, 1, 2, 3, 4] rfl
  refine va_callv (va_runV (As := [.int (nI frm), .int (nI too), .int (bI b)]) (rest := rest) ⟨hx, hb, hml, hown, htB⟩ (c_X_takeAnyRow l dC dI h0 a1 a2 a3 a4 cI cZ tx pt qt sr tn pn H.size frm too hft ht4 b g hg hsr) (cwV 3 htB (gV hml_X_84 hinm_X_takeAnyRow hsel_X_takeAnyRow hini_X hco_X_takeAnyRow) rfl rfl rfl (by decide +kernel) hR) ⟨fun a U g mk q => by obtain ⟨q0, q1, qP, qK, qD⟩ := q; exact ⟨q0, q1, qP, va_K.moved (u := U) (U := U.calling g mk a) (Vm.Alike.refl U.vm) qK, qD⟩, va_recv hK hP (ci := 0) (q0 := 0) rfl rfl, fun U hU hW => ⟨rfl, by rw [hU], by rw [hU]; exact hP, va_K.moved hW.alike hK, hD.weaken (fun _ _ _ _ => trivial)⟩⟩ rfl rfl hls rfl (lv_room hre) hd ⟨hce.1, hce.2⟩) hS (fun q _ h => hFc q h) hFc (fun su t H1 locs1 ht hvm hw hB hz1 hk1 hS1 => ?_)
  obtain ⟨hP1, hK1, hD1⟩ := hB
  rw [ht] at hP1
  have hj := va_join (wr := []) (w1 := (wX h0 a1 a2 a3 a4 cI cZ tx pt qt su tn pn)) hP hD [0, 1, 2, 3, 4] [] rfl rfl (by decide) (by decide) hk1 hFc hP1 hD1
  exact kk su H1 locs1 hw hj.1 hj.2 hS1

set_option maxHeartbeats 4000000 in
set_option maxRecDepth 100000 in
theorem c_X_takeOne (l : Launch) (dC : Nat → ClassId) (dI : Nat → Nat → Nat) (h0 a1 a2 a3 a4 : Nat) (cI cZ : ClassId) (tx pt qt sr : Nat → Int32) (tn pn : Nat) (sz : Nat) (hp : pn ≤ 200) (frm too : Nat) (hft : frm ≤ too) (ht4 : too ≤ 400) (a : Nat) (ha : a < pn) (o : Option Nat) (ho : ∀ k, o = some k → fm pt qt pn a ≤ k ∧ k < pn) (g : Nat → Option Nat) (hg : sml g) (hsr : ∀ j, frm ≤ j → j ≤ too → sr j = oI (g j)) : Met l y_X_takeOne (.code y_X_takeOne b_X_takeOne 7 none :: wB) (Rm 3 72) (va_Pc [.ref h0, .int (nI frm), .int (nI too), .int (nI a), .int (oI o)] (fun U => U.heap.size = sz ∧ va_P (dC, dI) classes (wX h0 a1 a2 a3 a4 cI cZ tx pt qt sr tn pn) U.heap ∧ va_K (dC, dI) classes (tyIZ cI cZ) U ∧ va_D (fun _ => True) (wX h0 a1 a2 a3 a4 cI cZ tx pt qt sr tn pn))) (va_Qv (fun (su : Nat → Int32) => su frm = -1 ∧ ∀ j, frm < j → j ≤ too → su j = oI (tk tx pt qt pn a o g (j - 1))) (fun (su : Nat → Int32) (t : State) => va_P (dC, dI) classes (wX h0 a1 a2 a3 a4 cI cZ tx pt qt su tn pn) t.heap ∧ va_K (dC, dI) classes (tyIZ cI cZ) t ∧ va_D (va_A (wX h0 a1 a2 a3 a4 cI cZ tx pt qt sr tn pn) sz) (wX h0 a1 a2 a3 a4 cI cZ tx pt qt su tn pn)) (va_A (wX h0 a1 a2 a3 a4 cI cZ tx pt qt sr tn pn) sz)) 0 0 (va_A (wX h0 a1 a2 a3 a4 cI cZ tx pt qt sr tn pn) sz) := by
  refine Met.ofW (cc := b_X_takeOne) (maxL := 7) (ret := none) (by decide) rfl ?_
  intro p e s mm args below meth c s₁ B hml hv
  obtain ⟨rfl, hsz, hP, hK, hD0⟩ := hv
  have hx := B.exec
  have hb := B.bytes
  have hr := B.returns
  have hts := atoms_spec (ws := (.code y_X_takeOne b_X_takeOne 7 none :: wB)) B.pre
  have htB : ∀ w ∈ wB, w.before _ s = true := fun w h => hts w (List.mem_cons_of_mem _ h)
  have hown : s.vm.findClass R_X = some mm.cls := findClass_of_methodNamed B.named
  have hlocks := B.notSynchronized
  subst hsz
  have hD := hD0.self (sz := s.heap.size)
  generalize hAe : va_A (wX h0 a1 a2 a3 a4 cI cZ tx pt qt sr tn pn) s.heap.size = A at hD ⊢
  have hA : ∀ q : Nat, s.heap.size ≤ q → A q := fun q h => by rw [← hAe]; exact Or.inr h
  have hS : va_S A s.heap s.heap [] := va_S.rf
  have hP : va_P (dC, dI) classes (wX h0 a1 a2 a3 a4 cI cZ tx pt qt sr tn pn) s.heap := hP
  have hl := lv_entry ([.ref h0, .int (nI frm), .int (nI too), .int (nI a), .int (oI o)]) (n := 7) (Nat.le_of_ble_eq_true rfl)
  rw [lg_entry_eq]
  generalize (lg_sl ([.ref h0, .int (nI frm), .int (nI too), .int (nI a), .int (oI o)]) ++ List.replicate (7 - (lg_sl ([.ref h0, .int (nI frm), .int (nI too), .int (nI a), .int (oI o)])).length) Slot.unset).toArray = ls at hl ⊢
  have hl : lv_has ls 7 [(0, .ref h0), (1, .int (nI frm)), (2, .int (nI too)), (3, .int (nI a)), (4, .int (oI o))] := hl
  have loop : ∀ (d : Nat) (sv : Nat → Int32) (H : Heap) (locs : List Loc), frm + d ≤ too → (∀ j, frm ≤ j → j ≤ frm + d → sv j = oI (g j)) → (∀ j, frm + d < j → j ≤ too → sv j = oI (tk tx pt qt pn a o g (j - 1))) → va_P (dC, dI) classes (wX h0 a1 a2 a3 a4 cI cZ tx pt qt sv tn pn) H → va_D A (wX h0 a1 a2 a3 a4 cI cZ tx pt qt sv tn pn) → va_S A s.heap H locs → ∀ ls : Array Slot, lv_has ls 7 [(5, .int (nI (frm + d))), (0, .ref h0), (1, .int (nI frm)), (2, .int (nI too)), (3, .int (nI a)), (4, .int (oI o))] → W p l e (Rm 3 72) s mm [.ref h0, .int (nI frm), .int (nI too), .int (nI a), .int (oI o)].toArray below meth c H locs 0 0 (MQ below (va_Qv (fun (su : Nat → Int32) => su frm = -1 ∧ ∀ j, frm < j → j ≤ too → su j = oI (tk tx pt qt pn a o g (j - 1))) (fun (su : Nat → Int32) (t : State) => va_P (dC, dI) classes (wX h0 a1 a2 a3 a4 cI cZ tx pt qt su tn pn) t.heap ∧ va_K (dC, dI) classes (tyIZ cI cZ) t ∧ va_D A (wX h0 a1 a2 a3 a4 cI cZ tx pt qt su tn pn)) A) [.ref h0, .int (nI frm), .int (nI too), .int (nI a), .int (oI o)].toArray s 0 0 A) (F0 mm 3 ls []) := by
    intro d
    induction d with
    | zero =>
      intro sv H locs hd hE1 hE2 hP hD hS ls hl
      have hl : lv_has ls 7 [(5, .int (nI frm)), (0, .ref h0), (1, .int (nI frm)), (2, .int (nI too)), (3, .int (nI a)), (4, .int (oI o))] := hl
      refine lv_iload hx hb d_X_takeOne_3 (lv_at hl 0 rfl) ?_
      refine lv_iload_n hx hb d_X_takeOne_5 rfl (lv_at hl 2 rfl) ?_
      refine lv_icmp_le (tgt := 79) hx hb d_X_takeOne_6 (by decide) (fun c_1 => ?_) (fun c_1 => ?_)
      · have c_1 := (nI_leI (by omega) (by omega)).mp c_1
        refine lv_aload_n hx hb d_X_takeOne_79 rfl (lv_at hl 1 rfl) ?_
        refine va_get (D := (dC, dI)) (ci := 0) (v := .ref a4) (C := R_X) (T := F_X) (N := 6) hx hb htB in_X hown hK hP 0 rfl rfl 5 (by decide) (htB _ hfl_X_27) (fun _ h9 => h9) rfl d_X_takeOne_80 ?_
        refine lv_iload_n hx hb d_X_takeOne_83 rfl (lv_at hl 2 rfl) ?_
        refine lv_iconst (v := -1) hx hb d_X_takeOne_84 (by decide) ?_
        refine va_iast hx hb hK hP hD hS 4 0 rfl rfl (vp_in_nI (n := frm) (by omega) (by decide)) d_X_takeOne_85 (fun H locs hP hD hS => ?_)
        rw [nI_clamp (n := frm) (by omega)] at hP hD
        have hP : va_P (dC, dI) classes (wX h0 a1 a2 a3 a4 cI cZ tx pt qt (upd sv frm (-1)) tn pn) H := hP
        have hD : va_D A (wX h0 a1 a2 a3 a4 cI cZ tx pt qt (upd sv frm (-1)) tn pn) := hD
        exact W.vret hx hb hr (fun t ht hW => ⟨⟨upd sv frm (-1), rfl, ⟨pk_us, fun j q1 q2 => by rw [pk_un (by omega)]; exact hE2 j (by omega) q2⟩, by rw [ht]; exact hP, va_K.moved hW.alike hK, hD⟩, hS.F ht⟩) hS.2.2 d_X_takeOne_86
      · have c_1 := mt (nI_leI (by omega) (by omega)).mpr c_1
        exact absurd (Nat.le_refl frm) c_1
    | succ d ih =>
      intro sv H locs hd hE1 hE2 hP hD hS ls hl
      have hl : lv_has ls 7 [(5, .int (nI (frm + d + 1))), (0, .ref h0), (1, .int (nI frm)), (2, .int (nI too)), (3, .int (nI a)), (4, .int (oI o))] := hl
      have hgd := hE1 (frm + d) (by omega) (by omega)
      refine lv_iload hx hb d_X_takeOne_3 (lv_at hl 0 rfl) ?_
      refine lv_iload_n hx hb d_X_takeOne_5 rfl (lv_at hl 2 rfl) ?_
      refine lv_icmp_le (tgt := 79) hx hb d_X_takeOne_6 (by decide) (fun c_1 => ?_) (fun c_1 => ?_)
      · have c_1 := (nI_leI (by omega) (by omega)).mp c_1
        exact absurd c_1 (by omega)
      · have c_1 := mt (nI_leI (by omega) (by omega)).mpr c_1
        refine lv_aload_n hx hb d_X_takeOne_9 rfl (lv_at hl 1 rfl) ?_
        refine va_get (D := (dC, dI)) (ci := 0) (v := .ref a4) (C := R_X) (T := F_X) (N := 6) hx hb htB in_X hown hK hP 0 rfl rfl 5 (by decide) (htB _ hfl_X_27) (fun _ h9 => h9) rfl d_X_takeOne_10 ?_
        refine lv_iload hx hb d_X_takeOne_13 (lv_at hl 0 rfl) ?_
        refine lv_iconst (v := nI 1) hx hb d_X_takeOne_15 (by decide) ?_
        refine lv_isub hx hb d_X_takeOne_16 ?_
        refine lv_topi (fun v_2 ev_2 => ?_)
        obtain rfl : v_2 = nI (frm + d) := ev_2.trans (pk_sub (by omega))
        refine va_iald hx hb hK hP 4 0 rfl rfl (vp_in_nI (n := frm + d) (by omega) (by decide)) d_X_takeOne_17 ?_
        refine lv_topi (fun v_3 ev_3 => ?_)
        obtain rfl : v_3 = oI (g (frm + d)) := (show v_3 = sv (frm + d) from ev_3.trans (by rw [nI_clamp (n := frm + d) (by omega)])).trans (hgd)
        refine lv_iconst (v := -1) hx hb d_X_takeOne_18 (by decide) ?_
        refine lv_icmp_eq (tgt := 45) hx hb d_X_takeOne_19 (by decide) (fun c_4 => ?_) (fun c_4 => ?_)
        · have c_4 := (oI_ne (fun k q => Nat.le_trans (hg _ k q) (by decide))).mp c_4
          refine lv_iconst (v := nI 0) hx hb d_X_takeOne_45 (by decide) ?_
          refine lv_istore (lv' := [(6, .int (nI 0)), (5, .int (nI (frm + d + 1))), (0, .ref h0), (1, .int (nI frm)), (2, .int (nI too)), (3, .int (nI a)), (4, .int (oI o))]) hx hb d_X_takeOne_46 hl (by decide) rfl (fun ls hl => ?_)
          refine lv_aload_n hx hb d_X_takeOne_48 rfl (lv_at hl 2 rfl) ?_
          refine va_get (D := (dC, dI)) (ci := 0) (v := .ref a4) (C := R_X) (T := F_X) (N := 6) hx hb htB in_X hown hK hP 0 rfl rfl 5 (by decide) (htB _ hfl_X_27) (fun _ h9 => h9) rfl d_X_takeOne_49 ?_
          refine lv_iload hx hb d_X_takeOne_52 (lv_at hl 1 rfl) ?_
          refine lv_iload hx hb d_X_takeOne_54 (lv_at hl 0 rfl) ?_
          refine lv_if_eq (tgt := 71) hx hb d_X_takeOne_56 (by decide) (fun c_5 => ?_) (fun c_5 => ?_)
          · clear c_5
            refine lv_iconst (v := -1) hx hb d_X_takeOne_71 (by decide) ?_
            refine va_iast hx hb hK hP hD hS 4 0 rfl rfl (vp_in_nI (n := frm + d + 1) (by omega) (by decide)) d_X_takeOne_72 (fun H locs hP hD hS => ?_)
            rw [nI_clamp (n := frm + d + 1) (by omega)] at hP hD
            have hP : va_P (dC, dI) classes (wX h0 a1 a2 a3 a4 cI cZ tx pt qt (upd sv (frm + d + 1) (-1)) tn pn) H := hP
            have hD : va_D A (wX h0 a1 a2 a3 a4 cI cZ tx pt qt (upd sv (frm + d + 1) (-1)) tn pn) := hD
            refine lv_iinc (v := nI (frm + d)) (lv' := [(5, .int (nI (frm + d))), (6, .int (nI 0)), (0, .ref h0), (1, .int (nI frm)), (2, .int (nI too)), (3, .int (nI a)), (4, .int (oI o))]) hx hb d_X_takeOne_73 hl (k := 1) rfl (pk_m1 _) (by decide) rfl (fun ls hl => ?_)
            refine lv_goto (tgt := 3) hx hb d_X_takeOne_76 (by decide) ?_
            refine ih _ _ _ (by omega) (fun j q1 q2 => ?_) (fun j q1 q2 => ?_) hP hD hS ls (lv_sub hl [0, 2, 3, 4, 5, 6] rfl)
            · rw [pk_un (by omega)]; exact hE1 j q1 (by omega)
            · by_cases q : j = frm + d + 1
              · subst q
                rw [pk_us, show frm + d + 1 - 1 = frm + d from rfl]
                unfold tk
                first | rw [if_pos ‹_›] | (rw [‹g (frm + d) = none›, ite_self]; rfl) | (rw [if_neg (by rw [‹ft pt qt pn a o (tx (frm + d)) = false›]; decide)]; rfl)
              · rw [pk_un q]; exact hE2 j (by omega) q2
          · exact absurd c_5 (by decide)
        · have c_4 := mt (oI_ne (fun k q => Nat.le_trans (hg _ k q) (by decide))).mpr c_4
          refine lv_aload_n hx hb d_X_takeOne_22 rfl (lv_at hl 1 rfl) ?_
          refine lv_aload_n hx hb d_X_takeOne_23 rfl (lv_at hl 1 rfl) ?_
          refine va_get (D := (dC, dI)) (ci := 0) (v := .ref a1) (C := R_X) (T := F_X) (N := 6) hx hb htB in_X hown hK hP 0 rfl rfl 0 (by decide) (htB _ hfl_X_9) (fun _ h9 => h9) rfl d_X_takeOne_24 ?_
          refine lv_iload hx hb d_X_takeOne_27 (lv_at hl 0 rfl) ?_
          refine lv_iconst (v := nI 1) hx hb d_X_takeOne_29 (by decide) ?_
          refine lv_isub hx hb d_X_takeOne_30 ?_
          refine lv_topi (fun v_6 ev_6 => ?_)
          obtain rfl : v_6 = nI (frm + d) := ev_6.trans (pk_sub (by omega))
          refine va_iald hx hb hK hP 1 0 rfl rfl (vp_in_nI (n := frm + d) (by omega) (by decide)) d_X_takeOne_31 ?_
          refine lv_topi (fun v_7 ev_7 => ?_)
          obtain rfl : v_7 = tx (frm + d) := ev_7.trans (by rw [nI_clamp (n := frm + d) (by omega)])
          refine lv_iload_n hx hb d_X_takeOne_32 rfl (lv_at hl 4 rfl) ?_
          refine lv_iload hx hb d_X_takeOne_33 (lv_at hl 5 rfl) ?_
          refine r_X_fits hp (by omega) ho hx hb hml hown htB hK hP hl.1 (Nat.le_of_ble_eq_true rfl) ⟨Nat.le_of_ble_eq_true rfl, Nat.le_of_ble_eq_true rfl⟩ ⟨Nat.zero_le _, Nat.zero_le _⟩ d_X_takeOne_35 ?_
          refine lv_if_eq (tgt := 45) hx hb d_X_takeOne_38 (by decide) (fun c_8 => ?_) (fun c_8 => ?_)
          · have c_8 := bI_z.mp c_8
            refine lv_iconst (v := nI 0) hx hb d_X_takeOne_45 (by decide) ?_
            refine lv_istore (lv' := [(6, .int (nI 0)), (5, .int (nI (frm + d + 1))), (0, .ref h0), (1, .int (nI frm)), (2, .int (nI too)), (3, .int (nI a)), (4, .int (oI o))]) hx hb d_X_takeOne_46 hl (by decide) rfl (fun ls hl => ?_)
            refine lv_aload_n hx hb d_X_takeOne_48 rfl (lv_at hl 2 rfl) ?_
            refine va_get (D := (dC, dI)) (ci := 0) (v := .ref a4) (C := R_X) (T := F_X) (N := 6) hx hb htB in_X hown hK hP 0 rfl rfl 5 (by decide) (htB _ hfl_X_27) (fun _ h9 => h9) rfl d_X_takeOne_49 ?_
            refine lv_iload hx hb d_X_takeOne_52 (lv_at hl 1 rfl) ?_
            refine lv_iload hx hb d_X_takeOne_54 (lv_at hl 0 rfl) ?_
            refine lv_if_eq (tgt := 71) hx hb d_X_takeOne_56 (by decide) (fun c_9 => ?_) (fun c_9 => ?_)
            · clear c_9
              refine lv_iconst (v := -1) hx hb d_X_takeOne_71 (by decide) ?_
              refine va_iast hx hb hK hP hD hS 4 0 rfl rfl (vp_in_nI (n := frm + d + 1) (by omega) (by decide)) d_X_takeOne_72 (fun H locs hP hD hS => ?_)
              rw [nI_clamp (n := frm + d + 1) (by omega)] at hP hD
              have hP : va_P (dC, dI) classes (wX h0 a1 a2 a3 a4 cI cZ tx pt qt (upd sv (frm + d + 1) (-1)) tn pn) H := hP
              have hD : va_D A (wX h0 a1 a2 a3 a4 cI cZ tx pt qt (upd sv (frm + d + 1) (-1)) tn pn) := hD
              refine lv_iinc (v := nI (frm + d)) (lv' := [(5, .int (nI (frm + d))), (6, .int (nI 0)), (0, .ref h0), (1, .int (nI frm)), (2, .int (nI too)), (3, .int (nI a)), (4, .int (oI o))]) hx hb d_X_takeOne_73 hl (k := 1) rfl (pk_m1 _) (by decide) rfl (fun ls hl => ?_)
              refine lv_goto (tgt := 3) hx hb d_X_takeOne_76 (by decide) ?_
              refine ih _ _ _ (by omega) (fun j q1 q2 => ?_) (fun j q1 q2 => ?_) hP hD hS ls (lv_sub hl [0, 2, 3, 4, 5, 6] rfl)
              · rw [pk_un (by omega)]; exact hE1 j q1 (by omega)
              · by_cases q : j = frm + d + 1
                · subst q
                  rw [pk_us, show frm + d + 1 - 1 = frm + d from rfl]
                  unfold tk
                  first | rw [if_pos ‹_›] | (rw [‹g (frm + d) = none›, ite_self]; rfl) | (rw [if_neg (by rw [‹ft pt qt pn a o (tx (frm + d)) = false›]; decide)]; rfl)
                · rw [pk_un q]; exact hE2 j (by omega) q2
            · exact absurd c_9 (by decide)
          · have c_8 := bI_nz.mp c_8
            refine lv_iconst (v := nI 1) hx hb d_X_takeOne_41 (by decide) ?_
            refine lv_goto (tgt := 46) hx hb d_X_takeOne_42 (by decide) ?_
            refine lv_istore (lv' := [(6, .int (nI 1)), (5, .int (nI (frm + d + 1))), (0, .ref h0), (1, .int (nI frm)), (2, .int (nI too)), (3, .int (nI a)), (4, .int (oI o))]) hx hb d_X_takeOne_46 hl (by decide) rfl (fun ls hl => ?_)
            refine lv_aload_n hx hb d_X_takeOne_48 rfl (lv_at hl 2 rfl) ?_
            refine va_get (D := (dC, dI)) (ci := 0) (v := .ref a4) (C := R_X) (T := F_X) (N := 6) hx hb htB in_X hown hK hP 0 rfl rfl 5 (by decide) (htB _ hfl_X_27) (fun _ h9 => h9) rfl d_X_takeOne_49 ?_
            refine lv_iload hx hb d_X_takeOne_52 (lv_at hl 1 rfl) ?_
            refine lv_iload hx hb d_X_takeOne_54 (lv_at hl 0 rfl) ?_
            refine lv_if_eq (tgt := 71) hx hb d_X_takeOne_56 (by decide) (fun c_10 => ?_) (fun c_10 => ?_)
            · exact absurd c_10 (by decide)
            · clear c_10
              refine lv_aload_n hx hb d_X_takeOne_59 rfl (lv_at hl 2 rfl) ?_
              refine va_get (D := (dC, dI)) (ci := 0) (v := .ref a4) (C := R_X) (T := F_X) (N := 6) hx hb htB in_X hown hK hP 0 rfl rfl 5 (by decide) (htB _ hfl_X_27) (fun _ h9 => h9) rfl d_X_takeOne_60 ?_
              refine lv_iload hx hb d_X_takeOne_63 (lv_at hl 1 rfl) ?_
              refine lv_iconst (v := nI 1) hx hb d_X_takeOne_65 (by decide) ?_
              refine lv_isub hx hb d_X_takeOne_66 ?_
              refine lv_topi (fun v_11 ev_11 => ?_)
              obtain rfl : v_11 = nI (frm + d) := ev_11.trans (pk_sub (by omega))
              refine va_iald hx hb hK hP 4 0 rfl rfl (vp_in_nI (n := frm + d) (by omega) (by decide)) d_X_takeOne_67 ?_
              refine lv_topi (fun v_12 ev_12 => ?_)
              obtain rfl : v_12 = oI (g (frm + d)) := (show v_12 = sv (frm + d) from ev_12.trans (by rw [nI_clamp (n := frm + d) (by omega)])).trans (hgd)
              refine lv_goto (tgt := 72) hx hb d_X_takeOne_68 (by decide) ?_
              refine va_iast hx hb hK hP hD hS 4 0 rfl rfl (vp_in_nI (n := frm + d + 1) (by omega) (by decide)) d_X_takeOne_72 (fun H locs hP hD hS => ?_)
              rw [nI_clamp (n := frm + d + 1) (by omega)] at hP hD
              have hP : va_P (dC, dI) classes (wX h0 a1 a2 a3 a4 cI cZ tx pt qt (upd sv (frm + d + 1) (oI (g (frm + d)))) tn pn) H := hP
              have hD : va_D A (wX h0 a1 a2 a3 a4 cI cZ tx pt qt (upd sv (frm + d + 1) (oI (g (frm + d)))) tn pn) := hD
              refine lv_iinc (v := nI (frm + d)) (lv' := [(5, .int (nI (frm + d))), (6, .int (nI 1)), (0, .ref h0), (1, .int (nI frm)), (2, .int (nI too)), (3, .int (nI a)), (4, .int (oI o))]) hx hb d_X_takeOne_73 hl (k := 1) rfl (pk_m1 _) (by decide) rfl (fun ls hl => ?_)
              refine lv_goto (tgt := 3) hx hb d_X_takeOne_76 (by decide) ?_
              refine ih _ _ _ (by omega) (fun j q1 q2 => ?_) (fun j q1 q2 => ?_) hP hD hS ls (lv_sub hl [0, 2, 3, 4, 5, 6] rfl)
              · rw [pk_un (by omega)]; exact hE1 j q1 (by omega)
              · by_cases q : j = frm + d + 1
                · subst q
                  rw [pk_us, show frm + d + 1 - 1 = frm + d from rfl]
                  unfold tk
                  first | rw [if_pos ‹_›] | (rw [‹g (frm + d) = none›, ite_self]; rfl) | (rw [if_neg (by rw [‹ft pt qt pn a o (tx (frm + d)) = false›]; decide)]; rfl)
                · rw [pk_un q]; exact hE2 j (by omega) q2
  refine lv_iload_n hx hb d_X_takeOne_0 rfl (lv_at hl 2 rfl) ?_
  refine lv_istore (lv' := [(5, .int (nI too)), (0, .ref h0), (1, .int (nI frm)), (2, .int (nI too)), (3, .int (nI a)), (4, .int (oI o))]) hx hb d_X_takeOne_1 hl (by decide) rfl (fun ls hl => ?_)
  have e9 : too = frm + (too - frm) := by omega
  refine loop (too - frm) _ _ _ (by omega) (fun j q1 q2 => hsr j q1 (by omega)) (fun j q1 q2 => absurd q1 (by omega)) hP hD hS ls ?_
  rw [← e9]
  exact (lv_sub hl [0, 1, 2, 3, 4, 5] rfl)

theorem r_X_takeOne {p : Program} {l : Launch} {e : Env} {R : Room} {s : State} {mm : MethodId} {args : Array Value} {below : List Frame} {meth : Method} {c : Code} {H : Heap} {locs : List Loc} {cells slots : Nat} {Q : State → Prop} {cc : ByteArray} {pcn nL : Nat} {ls : Array Slot} {rest : List Value} {dC : Nat → ClassId} {dI : Nat → Nat → Nat} {h0 a1 a2 a3 a4 : Nat} {cI cZ : ClassId} {tx pt qt sr : Nat → Int32} {tn pn : Nat} {A : Nat → Prop} {H0 : Heap} (hp : pn ≤ 200) {frm too : Nat} (hft : frm ≤ too) (ht4 : too ≤ 400) {a : Nat} (ha : a < pn) {o : Option Nat} (ho : ∀ k, o = some k → fm pt qt pn a ≤ k ∧ k < pn) {g : Nat → Option Nat} (hg : sml g) (hsr : ∀ j, frm ≤ j → j ≤ too → sr j = oI (g j)) (hx : p.tables.exec = Jvm.exec) (hb : c.code = cc) (hml : c.maxLocals = nL) (hown : s.vm.findClass R_X = some mm.cls) (htB : ∀ w ∈ wB, w.before args s = true) (hK : va_K (dC, dI) classes (tyIZ cI cZ) s) (hP : va_P (dC, dI) classes (wX h0 a1 a2 a3 a4 cI cZ tx pt qt sr tn pn) H) (hD : va_D A (wX h0 a1 a2 a3 a4 cI cZ tx pt qt sr tn pn)) (hS : va_S A H0 H locs) (hA : ∀ q : Nat, H0.size ≤ q → A q) (hls : ls.size = nL) (hre : (rest.map fun v => v.category).sum ≤ 8) (hR : 3 + 1 ≤ R.frames ∧ 8 + (7 + 11) + 72 ≤ R.locals) (hce : cells ≤ R.cells ∧ slots ≤ R.slots) (hd : decode cc pcn = .ok (.invokevirtual 87, 3)) (kk : ∀ (su : Nat → Int32) (H1 : Heap) (locs1 : List Loc), (su frm = -1 ∧ ∀ j, frm < j → j ≤ too → su j = oI (tk tx pt qt pn a o g (j - 1))) → va_P (dC, dI) classes (wX h0 a1 a2 a3 a4 cI cZ tx pt qt su tn pn) H1 → va_D A (wX h0 a1 a2 a3 a4 cI cZ tx pt qt su tn pn) → va_S A H0 H1 locs1 → W p l e R s mm args below meth c H1 locs1 cells slots Q (F0 mm (pcn + 3) ls (rest))) : W p l e R s mm args below meth c H locs cells slots Q (F0 mm pcn ls (.int (oI o) :: .int (nI a) :: .int (nI too) :: .int (nI frm) :: .ref h0 :: rest)) := by
  have hFc := va_free (wc := (wX h0 a1 a2 a3 a4 cI cZ tx pt qt sr tn pn)) hD hS hA [0, 1, 2, 3, 4] rfl
  refine va_callv (va_runV (As := [.int (nI frm), .int (nI too), .int (nI a), .int (oI o)]) (rest := rest) ⟨hx, hb, hml, hown, htB⟩ (c_X_takeOne l dC dI h0 a1 a2 a3 a4 cI cZ tx pt qt sr tn pn H.size hp frm too hft ht4 a ha o ho g hg hsr) (cwV 4 htB (gV hml_X_87 hinm_X_takeOne hsel_X_takeOne hini_X hco_X_takeOne) rfl rfl rfl (by decide +kernel) hR) ⟨fun a U g mk q => by obtain ⟨q0, q1, qP, qK, qD⟩ := q; exact ⟨q0, q1, qP, va_K.moved (u := U) (U := U.calling g mk a) (Vm.Alike.refl U.vm) qK, qD⟩, va_recv hK hP (ci := 0) (q0 := 0) rfl rfl, fun U hU hW => ⟨rfl, by rw [hU], by rw [hU]; exact hP, va_K.moved hW.alike hK, hD.weaken (fun _ _ _ _ => trivial)⟩⟩ rfl rfl hls rfl (lv_room hre) hd ⟨hce.1, hce.2⟩) hS (fun q _ h => hFc q h) hFc (fun su t H1 locs1 ht hvm hw hB hz1 hk1 hS1 => ?_)
  obtain ⟨hP1, hK1, hD1⟩ := hB
  rw [ht] at hP1
  have hj := va_join (wr := []) (w1 := (wX h0 a1 a2 a3 a4 cI cZ tx pt qt su tn pn)) hP hD [0, 1, 2, 3, 4] [] rfl rfl (by decide) (by decide) hk1 hFc hP1 hD1
  exact kk su H1 locs1 hw hj.1 hj.2 hS1

set_option maxHeartbeats 4000000 in
set_option maxRecDepth 100000 in
theorem c_X_readPattern (l : Launch) (dC : Nat → ClassId) (dI : Nat → Nat → Nat) (h0 a1 a2 a3 a4 : Nat) (cI cZ : ClassId) (tx pt qt sr : Nat → Int32) (tn pn : Nat) (sz : Nat) (hp : pn ≤ 200) (frm too : Nat) (hft : frm ≤ too) (ht4 : too ≤ 400) (b : Bool) (g : Nat → Option Nat) (hg : sml g) (hsr : ∀ j, frm ≤ j → j ≤ too → sr j = oI (g j)) : Met l y_X_readPattern (.code y_X_readPattern b_X_readPattern 6 none :: wB) (Rm 4 98) (va_Pc [.ref h0, .int (nI frm), .int (nI too), .int (bI b)] (fun U => U.heap.size = sz ∧ va_P (dC, dI) classes (wX h0 a1 a2 a3 a4 cI cZ tx pt qt sr tn pn) U.heap ∧ va_K (dC, dI) classes (tyIZ cI cZ) U ∧ va_D (fun _ => True) (wX h0 a1 a2 a3 a4 cI cZ tx pt qt sr tn pn))) (va_Qv (fun (su : Nat → Int32) => ∀ j, frm ≤ j → j ≤ too → su j = oI (rdp tx pt qt pn b frm pn 0 g j)) (fun (su : Nat → Int32) (t : State) => va_P (dC, dI) classes (wX h0 a1 a2 a3 a4 cI cZ tx pt qt su tn pn) t.heap ∧ va_K (dC, dI) classes (tyIZ cI cZ) t ∧ va_D (va_A (wX h0 a1 a2 a3 a4 cI cZ tx pt qt sr tn pn) sz) (wX h0 a1 a2 a3 a4 cI cZ tx pt qt su tn pn)) (va_A (wX h0 a1 a2 a3 a4 cI cZ tx pt qt sr tn pn) sz)) 0 0 (va_A (wX h0 a1 a2 a3 a4 cI cZ tx pt qt sr tn pn) sz) := by
  refine Met.ofW (cc := b_X_readPattern) (maxL := 6) (ret := none) (by decide) rfl ?_
  intro p e s mm args below meth c s₁ B hml hv
  obtain ⟨rfl, hsz, hP, hK, hD0⟩ := hv
  have hx := B.exec
  have hb := B.bytes
  have hr := B.returns
  have hts := atoms_spec (ws := (.code y_X_readPattern b_X_readPattern 6 none :: wB)) B.pre
  have htB : ∀ w ∈ wB, w.before _ s = true := fun w h => hts w (List.mem_cons_of_mem _ h)
  have hown : s.vm.findClass R_X = some mm.cls := findClass_of_methodNamed B.named
  have hlocks := B.notSynchronized
  subst hsz
  have hD := hD0.self (sz := s.heap.size)
  generalize hAe : va_A (wX h0 a1 a2 a3 a4 cI cZ tx pt qt sr tn pn) s.heap.size = A at hD ⊢
  have hA : ∀ q : Nat, s.heap.size ≤ q → A q := fun q h => by rw [← hAe]; exact Or.inr h
  have hS : va_S A s.heap s.heap [] := va_S.rf
  have hP : va_P (dC, dI) classes (wX h0 a1 a2 a3 a4 cI cZ tx pt qt sr tn pn) s.heap := hP
  have hl := lv_entry ([.ref h0, .int (nI frm), .int (nI too), .int (bI b)]) (n := 6) (Nat.le_of_ble_eq_true rfl)
  rw [lg_entry_eq]
  generalize (lg_sl ([.ref h0, .int (nI frm), .int (nI too), .int (bI b)]) ++ List.replicate (6 - (lg_sl ([.ref h0, .int (nI frm), .int (nI too), .int (bI b)])).length) Slot.unset).toArray = ls at hl ⊢
  have hl : lv_has ls 6 [(0, .ref h0), (1, .int (nI frm)), (2, .int (nI too)), (3, .int (bI b))] := hl
  have loop : ∀ (n a : Nat) (gv : Nat → Option Nat) (sv : Nat → Int32) (H : Heap) (locs : List Loc), a ≤ pn → pn < a + n → sml gv → rdp tx pt qt pn b frm (pn - a) a gv = rdp tx pt qt pn b frm pn 0 g → (∀ j, frm ≤ j → j ≤ too → sv j = oI (gv j)) → va_P (dC, dI) classes (wX h0 a1 a2 a3 a4 cI cZ tx pt qt sv tn pn) H → va_D A (wX h0 a1 a2 a3 a4 cI cZ tx pt qt sv tn pn) → va_S A s.heap H locs → ∀ ls : Array Slot, lv_has ls 6 [(4, .int (nI a)), (0, .ref h0), (1, .int (nI frm)), (2, .int (nI too)), (3, .int (bI b))] → W p l e (Rm 4 98) s mm [.ref h0, .int (nI frm), .int (nI too), .int (bI b)].toArray below meth c H locs 0 0 (MQ below (va_Qv (fun (su : Nat → Int32) => ∀ j, frm ≤ j → j ≤ too → su j = oI (rdp tx pt qt pn b frm pn 0 g j)) (fun (su : Nat → Int32) (t : State) => va_P (dC, dI) classes (wX h0 a1 a2 a3 a4 cI cZ tx pt qt su tn pn) t.heap ∧ va_K (dC, dI) classes (tyIZ cI cZ) t ∧ va_D A (wX h0 a1 a2 a3 a4 cI cZ tx pt qt su tn pn)) A) [.ref h0, .int (nI frm), .int (nI too), .int (bI b)].toArray s 0 0 A) (F0 mm 3 ls []) := by
    intro n
    induction n with
    | zero => intro a gv sv H locs h1 h2; exact absurd h2 (by omega)
    | succ n ih =>
      intro a gv sv H locs hap hn hgv hE hsv hP hD hS ls hl
      have hnx := nx_gt pt qt pn a
      refine lv_iload hx hb d_X_readPattern_3 (lv_at hl 0 rfl) ?_
      refine lv_aload_n hx hb d_X_readPattern_5 rfl (lv_at hl 1 rfl) ?_
      refine va_get (D := (dC, dI)) (ci := 0) (v := .int (nI pn)) (C := R_X) (T := F_X) (N := 6) hx hb htB in_X hown hK hP 0 rfl rfl 4 (by decide) (htB _ hfl_X_24) (fun _ h9 => h9) rfl d_X_readPattern_6 ?_
      refine lv_icmp_ge (tgt := 65) hx hb d_X_readPattern_9 (by decide) (fun c_1 => ?_) (fun c_1 => ?_)
      · have c_1 := (nI_leI (by omega) (by omega)).mp c_1
        exact W.vret hx hb hr (fun t ht hW => ⟨⟨sv, rfl, fun j q1 q2 => by rw [hsv j q1 q2, ← hE, rdp_out (by omega)], by rw [ht]; exact hP, va_K.moved hW.alike hK, hD⟩, hS.F ht⟩) hS.2.2 d_X_readPattern_65
      · have c_1 := mt (nI_leI (by omega) (by omega)).mpr c_1
        refine lv_aload_n hx hb d_X_readPattern_12 rfl (lv_at hl 1 rfl) ?_
        refine lv_iload hx hb d_X_readPattern_13 (lv_at hl 0 rfl) ?_
        refine r_X_closeOf hp (by omega) hx hb hml hown htB hK hP hl.1 (Nat.le_of_ble_eq_true rfl) ⟨Nat.le_of_ble_eq_true rfl, Nat.le_of_ble_eq_true rfl⟩ ⟨Nat.zero_le _, Nat.zero_le _⟩ d_X_readPattern_15 ?_
        refine lv_istore (lv' := [(5, .int (oI (cl pt qt pn a))), (4, .int (nI a)), (0, .ref h0), (1, .int (nI frm)), (2, .int (nI too)), (3, .int (bI b))]) hx hb d_X_readPattern_18 hl (by decide) rfl (fun ls hl => ?_)
        refine lv_aload_n hx hb d_X_readPattern_20 rfl (lv_at hl 2 rfl) ?_
        refine lv_iload hx hb d_X_readPattern_21 (lv_at hl 1 rfl) ?_
        refine lv_bipush (v := nI 42) hx hb d_X_readPattern_23 (by decide) ?_
        refine r_X_isUnquoted hp (by omega) hx hb hml hown htB hK hP hl.1 (Nat.le_of_ble_eq_true rfl) ⟨Nat.le_of_ble_eq_true rfl, Nat.le_of_ble_eq_true rfl⟩ ⟨Nat.zero_le _, Nat.zero_le _⟩ d_X_readPattern_25 ?_
        refine lv_if_eq (tgt := 41) hx hb d_X_readPattern_28 (by decide) (fun c_2 => ?_) (fun c_2 => ?_)
        · have c_2 := bI_z.mp c_2
          refine lv_aload_n hx hb d_X_readPattern_41 rfl (lv_at hl 2 rfl) ?_
          refine lv_iload_n hx hb d_X_readPattern_42 rfl (lv_at hl 3 rfl) ?_
          refine lv_iload_n hx hb d_X_readPattern_43 rfl (lv_at hl 4 rfl) ?_
          refine lv_iload hx hb d_X_readPattern_44 (lv_at hl 1 rfl) ?_
          refine lv_iload hx hb d_X_readPattern_46 (lv_at hl 0 rfl) ?_
          refine r_X_takeOne hp hft ht4 (by omega) (fun k q => by have := cl_in q; omega) hgv hsv hx hb hml hown htB hK hP hD hS hA hl.1 (Nat.le_of_ble_eq_true rfl) ⟨Nat.le_of_ble_eq_true rfl, Nat.le_of_ble_eq_true rfl⟩ ⟨Nat.zero_le _, Nat.zero_le _⟩ d_X_readPattern_48 (fun su H locs hsu hP hD hS => ?_)
          refine lv_iload hx hb d_X_readPattern_51 (lv_at hl 1 rfl) ?_
          refine lv_iload hx hb d_X_readPattern_53 (lv_at hl 0 rfl) ?_
          refine va_mmax hx hb (by rw [hml]; exact hl.1.symm) hown (htB _ hml_X_91) (htB _ hsta_Math_max) (htB _ hini_Math) (htB _ hco_Math_max) (Nat.le_of_ble_eq_true rfl) (Nat.le_of_ble_eq_true rfl) (Nat.zero_le _) (Nat.zero_le _) d_X_readPattern_55 ?_
          refine lv_topi (fun v_3 ev_3 => ?_)
          obtain rfl : v_3 = nI (nx pt qt pn a - 1) := ev_3.trans (mx_nx hp (by omega))
          refine lv_iconst (v := nI 1) hx hb d_X_readPattern_58 (by decide) ?_
          refine lv_iadd hx hb d_X_readPattern_59 ?_
          refine lv_topi (fun v_4 ev_4 => ?_)
          obtain rfl : v_4 = nI (nx pt qt pn a - 1 + 1) := ev_4.trans (nI_add _ _)
          rw [show nx pt qt pn a - 1 + 1 = nx pt qt pn a by omega]
          refine lv_istore (lv' := [(4, .int (nI (nx pt qt pn a))), (5, .int (oI (cl pt qt pn a))), (0, .ref h0), (1, .int (nI frm)), (2, .int (nI too)), (3, .int (bI b))]) hx hb d_X_readPattern_60 hl (by decide) rfl (fun ls hl => ?_)
          refine lv_goto (tgt := 3) hx hb d_X_readPattern_62 (by decide) ?_
          refine ih (nx pt qt pn a) (sg tx pt qt pn b frm gv a) su _ _ (nx_le (by omega)) (by omega) (sg_sml hgv) (by rw [← rdp_go (by omega)]; exact hE) (fun j q1 q2 => ?_) hP hD hS ls (lv_sub hl [0, 2, 3, 4, 5] rfl)
          unfold sg
          first
          | (rw [if_pos ‹iu pt qt pn a (nI 42) = true›, if_neg (by omega)]; exact hsu j q1 q2)
          | (rw [if_neg (by rw [‹iu pt qt pn a (nI 42) = false›]; decide)]
             by_cases q : j = frm
             · subst q; rw [if_pos (Nat.le_refl _)]; exact hsu.1
             · rw [if_neg (by omega)]; exact hsu.2 j (by omega) q2)
        · have c_2 := bI_nz.mp c_2
          refine lv_aload_n hx hb d_X_readPattern_31 rfl (lv_at hl 2 rfl) ?_
          refine lv_iload_n hx hb d_X_readPattern_32 rfl (lv_at hl 3 rfl) ?_
          refine lv_iload_n hx hb d_X_readPattern_33 rfl (lv_at hl 4 rfl) ?_
          refine lv_iload_n hx hb d_X_readPattern_34 rfl (lv_at hl 5 rfl) ?_
          refine r_X_takeAnyRow hft ht4 hgv hsv hx hb hml hown htB hK hP hD hS hA hl.1 (Nat.le_of_ble_eq_true rfl) ⟨Nat.le_of_ble_eq_true rfl, Nat.le_of_ble_eq_true rfl⟩ ⟨Nat.zero_le _, Nat.zero_le _⟩ d_X_readPattern_35 (fun su H locs hsu hP hD hS => ?_)
          refine lv_goto (tgt := 51) hx hb d_X_readPattern_38 (by decide) ?_
          refine lv_iload hx hb d_X_readPattern_51 (lv_at hl 1 rfl) ?_
          refine lv_iload hx hb d_X_readPattern_53 (lv_at hl 0 rfl) ?_
          refine va_mmax hx hb (by rw [hml]; exact hl.1.symm) hown (htB _ hml_X_91) (htB _ hsta_Math_max) (htB _ hini_Math) (htB _ hco_Math_max) (Nat.le_of_ble_eq_true rfl) (Nat.le_of_ble_eq_true rfl) (Nat.zero_le _) (Nat.zero_le _) d_X_readPattern_55 ?_
          refine lv_topi (fun v_5 ev_5 => ?_)
          obtain rfl : v_5 = nI (nx pt qt pn a - 1) := ev_5.trans (mx_nx hp (by omega))
          refine lv_iconst (v := nI 1) hx hb d_X_readPattern_58 (by decide) ?_
          refine lv_iadd hx hb d_X_readPattern_59 ?_
          refine lv_topi (fun v_6 ev_6 => ?_)
          obtain rfl : v_6 = nI (nx pt qt pn a - 1 + 1) := ev_6.trans (nI_add _ _)
          rw [show nx pt qt pn a - 1 + 1 = nx pt qt pn a by omega]
          refine lv_istore (lv' := [(4, .int (nI (nx pt qt pn a))), (5, .int (oI (cl pt qt pn a))), (0, .ref h0), (1, .int (nI frm)), (2, .int (nI too)), (3, .int (bI b))]) hx hb d_X_readPattern_60 hl (by decide) rfl (fun ls hl => ?_)
          refine lv_goto (tgt := 3) hx hb d_X_readPattern_62 (by decide) ?_
          refine ih (nx pt qt pn a) (sg tx pt qt pn b frm gv a) su _ _ (nx_le (by omega)) (by omega) (sg_sml hgv) (by rw [← rdp_go (by omega)]; exact hE) (fun j q1 q2 => ?_) hP hD hS ls (lv_sub hl [0, 2, 3, 4, 5] rfl)
          unfold sg
          first
          | (rw [if_pos ‹iu pt qt pn a (nI 42) = true›, if_neg (by omega)]; exact hsu j q1 q2)
          | (rw [if_neg (by rw [‹iu pt qt pn a (nI 42) = false›]; decide)]
             by_cases q : j = frm
             · subst q; rw [if_pos (Nat.le_refl _)]; exact hsu.1
             · rw [if_neg (by omega)]; exact hsu.2 j (by omega) q2)
  refine lv_iconst (v := nI 0) hx hb d_X_readPattern_0 (by decide) ?_
  refine lv_istore (lv' := [(4, .int (nI 0)), (0, .ref h0), (1, .int (nI frm)), (2, .int (nI too)), (3, .int (bI b))]) hx hb d_X_readPattern_1 hl (by decide) rfl (fun ls hl => ?_)
  exact loop (pn + 1) 0 g _ _ _ (by omega) (by omega) hg rfl hsr hP hD hS ls (lv_sub hl [0, 1, 2, 3, 4] rfl)

theorem r_X_readPattern {p : Program} {l : Launch} {e : Env} {R : Room} {s : State} {mm : MethodId} {args : Array Value} {below : List Frame} {meth : Method} {c : Code} {H : Heap} {locs : List Loc} {cells slots : Nat} {Q : State → Prop} {cc : ByteArray} {pcn nL : Nat} {ls : Array Slot} {rest : List Value} {dC : Nat → ClassId} {dI : Nat → Nat → Nat} {h0 a1 a2 a3 a4 : Nat} {cI cZ : ClassId} {tx pt qt sr : Nat → Int32} {tn pn : Nat} {A : Nat → Prop} {H0 : Heap} (hp : pn ≤ 200) {frm too : Nat} (hft : frm ≤ too) (ht4 : too ≤ 400) {b : Bool} {g : Nat → Option Nat} (hg : sml g) (hsr : ∀ j, frm ≤ j → j ≤ too → sr j = oI (g j)) (hx : p.tables.exec = Jvm.exec) (hb : c.code = cc) (hml : c.maxLocals = nL) (hown : s.vm.findClass R_X = some mm.cls) (htB : ∀ w ∈ wB, w.before args s = true) (hK : va_K (dC, dI) classes (tyIZ cI cZ) s) (hP : va_P (dC, dI) classes (wX h0 a1 a2 a3 a4 cI cZ tx pt qt sr tn pn) H) (hD : va_D A (wX h0 a1 a2 a3 a4 cI cZ tx pt qt sr tn pn)) (hS : va_S A H0 H locs) (hA : ∀ q : Nat, H0.size ≤ q → A q) (hls : ls.size = nL) (hre : (rest.map fun v => v.category).sum ≤ 8) (hR : 4 + 1 ≤ R.frames ∧ 8 + (6 + 11) + 98 ≤ R.locals) (hce : cells ≤ R.cells ∧ slots ≤ R.slots) (hd : decode cc pcn = .ok (.invokevirtual 77, 3)) (kk : ∀ (su : Nat → Int32) (H1 : Heap) (locs1 : List Loc), (∀ j, frm ≤ j → j ≤ too → su j = oI (rdp tx pt qt pn b frm pn 0 g j)) → va_P (dC, dI) classes (wX h0 a1 a2 a3 a4 cI cZ tx pt qt su tn pn) H1 → va_D A (wX h0 a1 a2 a3 a4 cI cZ tx pt qt su tn pn) → va_S A H0 H1 locs1 → W p l e R s mm args below meth c H1 locs1 cells slots Q (F0 mm (pcn + 3) ls (rest))) : W p l e R s mm args below meth c H locs cells slots Q (F0 mm pcn ls (.int (bI b) :: .int (nI too) :: .int (nI frm) :: .ref h0 :: rest)) := by
  have hFc := va_free (wc := (wX h0 a1 a2 a3 a4 cI cZ tx pt qt sr tn pn)) hD hS hA [0, 1, 2, 3, 4] rfl
  refine va_callv (va_runV (As := [.int (nI frm), .int (nI too), .int (bI b)]) (rest := rest) ⟨hx, hb, hml, hown, htB⟩ (c_X_readPattern l dC dI h0 a1 a2 a3 a4 cI cZ tx pt qt sr tn pn H.size hp frm too hft ht4 b g hg hsr) (cwV 3 htB (gV hml_X_77 hinm_X_readPattern hsel_X_readPattern hini_X hco_X_readPattern) rfl rfl rfl (by decide +kernel) hR) ⟨fun a U g mk q => by obtain ⟨q0, q1, qP, qK, qD⟩ := q; exact ⟨q0, q1, qP, va_K.moved (u := U) (U := U.calling g mk a) (Vm.Alike.refl U.vm) qK, qD⟩, va_recv hK hP (ci := 0) (q0 := 0) rfl rfl, fun U hU hW => ⟨rfl, by rw [hU], by rw [hU]; exact hP, va_K.moved hW.alike hK, hD.weaken (fun _ _ _ _ => trivial)⟩⟩ rfl rfl hls rfl (lv_room hre) hd ⟨hce.1, hce.2⟩) hS (fun q _ h => hFc q h) hFc (fun su t H1 locs1 ht hvm hw hB hz1 hk1 hS1 => ?_)
  obtain ⟨hP1, hK1, hD1⟩ := hB
  rw [ht] at hP1
  have hj := va_join (wr := []) (w1 := (wX h0 a1 a2 a3 a4 cI cZ tx pt qt su tn pn)) hP hD [0, 1, 2, 3, 4] [] rfl rfl (by decide) (by decide) hk1 hFc hP1 hD1
  exact kk su H1 locs1 hw hj.1 hj.2 hS1
end
section
/-! what text and pattern put behind -/
/-- the text with the first i of j bytes of x behind its tn characters -/
def ap (tx : Nat → Int32) (tn : Nat) (x : Int64) (j i : Nat) : Nat → Int32 := fun q => if tn ≤ q ∧ q < tn + i then bu x (8 * (j - 1 - (q - tn))) else tx q
theorem ap_0 {tx : Nat → Int32} {tn : Nat} {x : Int64} {j : Nat} : ap tx tn x j 0 = tx := by
  funext q; unfold ap; rw [if_neg (by omega)]
theorem ap_s {tx : Nat → Int32} {tn : Nat} {x : Int64} {j i : Nat} : upd (ap tx tn x j i) (tn + i) (bu x (8 * (j - 1 - i))) = ap tx tn x j (i + 1) := by
  funext q
  by_cases h : q = tn + i
  · subst h; rw [pk_us]; unfold ap; rw [if_pos (by omega), Nat.add_sub_cancel_left]
  · rw [pk_un h]; unfold ap
    by_cases h2 : tn ≤ q ∧ q < tn + i
    · rw [if_pos h2, if_pos (by omega)]
    · rw [if_neg h2, if_neg (by omega)]
/-- bit k -/
def qb (q : Int32) (k : Nat) : Bool := decide (((q.toUInt32 >>> ((nI k).toUInt32 &&& Int32.toUInt32 31)).toInt32 &&& nI 1) = nI 1)
def aq (qt : Nat → Int32) (pn : Nat) (q : Int32) (i : Nat) : Nat → Int32 := fun t => if pn ≤ t ∧ t < pn + i then bI (qb q (t - pn)) else qt t
theorem aq_0 {qt : Nat → Int32} {pn : Nat} {q : Int32} : aq qt pn q 0 = qt := by
  funext t; unfold aq; rw [if_neg (by omega)]
theorem aq_s {qt : Nat → Int32} {pn : Nat} {q : Int32} {i : Nat} : upd (aq qt pn q i) (pn + i) (bI (qb q i)) = aq qt pn q (i + 1) := by
  funext t
  by_cases h : t = pn + i
  · subst h; rw [pk_us]; unfold aq; rw [if_pos (by omega), Nat.add_sub_cancel_left]
  · rw [pk_un h]; unfold aq
    by_cases h2 : pn ≤ t ∧ t < pn + i
    · rw [if_pos h2, if_pos (by omega)]
    · rw [if_neg h2, if_neg (by omega)]
/-- what text answers, and the text behind it -/
def teR (tn lim : Nat) (n : Int32) : Int32 := if hrm tn lim n = true then nI (tn + n.toNatClampNeg) else -1
def teN (tn lim : Nat) (n : Int32) : Nat := if hrm tn lim n = true then tn + n.toNatClampNeg else tn
def teT (tx : Nat → Int32) (tn lim : Nat) (x : Int64) (n : Int32) : Nat → Int32 := if hrm tn lim n = true then ap tx tn x n.toNatClampNeg n.toNatClampNeg else tx
def teQ (qt : Nat → Int32) (tn lim : Nat) (q n : Int32) : Nat → Int32 := if hrm tn lim n = true then aq qt tn q n.toNatClampNeg else qt
theorem teN_le {tn lim : Nat} {n : Int32} (h : tn ≤ lim) : teN tn lim n ≤ lim := by
  unfold teN
  split
  · obtain ⟨j, hj, rfl, hl⟩ := hrm_t ‹_›
    rw [nI_clamp (by omega)]; exact hl
  · exact h
end
section
/-! the class: matches, cut, count: by wip/whole/gen/gen12.py -/
set_option maxHeartbeats 4000000 in
set_option maxRecDepth 100000 in
theorem c_X_pieceMatches (l : Launch) (dC : Nat → ClassId) (dI : Nat → Nat → Nat) (h0 a1 a2 a3 a4 : Nat) (cI cZ : ClassId) (tx pt qt sr : Nat → Int32) (tn pn : Nat) (sz : Nat) (hp : pn ≤ 200) (frm too : Nat) (hft : frm ≤ too) (ht4 : too ≤ 400) : Met l y_X_pieceMatches (.code y_X_pieceMatches b_X_pieceMatches 3 (some .boolean) :: wB) (Rm 5 123) (va_Pc [.ref h0, .int (nI frm), .int (nI too)] (fun U => U.heap.size = sz ∧ va_P (dC, dI) classes (wX h0 a1 a2 a3 a4 cI cZ tx pt qt sr tn pn) U.heap ∧ va_K (dC, dI) classes (tyIZ cI cZ) U ∧ va_D (fun _ => True) (wX h0 a1 a2 a3 a4 cI cZ tx pt qt sr tn pn))) (va_Qi (fun (r : Int32) (su : Nat → Int32) => r = bI (mX tx pt qt pn frm too)) (fun (su : Nat → Int32) (t : State) => va_P (dC, dI) classes (wX h0 a1 a2 a3 a4 cI cZ tx pt qt su tn pn) t.heap ∧ va_K (dC, dI) classes (tyIZ cI cZ) t ∧ va_D (va_A (wX h0 a1 a2 a3 a4 cI cZ tx pt qt sr tn pn) sz) (wX h0 a1 a2 a3 a4 cI cZ tx pt qt su tn pn)) (va_A (wX h0 a1 a2 a3 a4 cI cZ tx pt qt sr tn pn) sz)) 0 0 (va_A (wX h0 a1 a2 a3 a4 cI cZ tx pt qt sr tn pn) sz) := by
  refine Met.ofW (cc := b_X_pieceMatches) (maxL := 3) (ret := (some .boolean)) (by decide) rfl ?_
  intro p e s mm args below meth c s₁ B hml hv
  obtain ⟨rfl, hsz, hP, hK, hD0⟩ := hv
  have hx := B.exec
  have hb := B.bytes
  have hr := B.returns
  have hts := atoms_spec (ws := (.code y_X_pieceMatches b_X_pieceMatches 3 (some .boolean) :: wB)) B.pre
  have htB : ∀ w ∈ wB, w.before _ s = true := fun w h => hts w (List.mem_cons_of_mem _ h)
  have hown : s.vm.findClass R_X = some mm.cls := findClass_of_methodNamed B.named
  have hlocks := B.notSynchronized
  subst hsz
  have hD := hD0.self (sz := s.heap.size)
  generalize hAe : va_A (wX h0 a1 a2 a3 a4 cI cZ tx pt qt sr tn pn) s.heap.size = A at hD ⊢
  have hA : ∀ q : Nat, s.heap.size ≤ q → A q := fun q h => by rw [← hAe]; exact Or.inr h
  have hS : va_S A s.heap s.heap [] := va_S.rf
  have hP : va_P (dC, dI) classes (wX h0 a1 a2 a3 a4 cI cZ tx pt qt sr tn pn) s.heap := hP
  have hl := lv_entry ([.ref h0, .int (nI frm), .int (nI too)]) (n := 3) (Nat.le_of_ble_eq_true rfl)
  rw [lg_entry_eq]
  generalize (lg_sl ([.ref h0, .int (nI frm), .int (nI too)]) ++ List.replicate (3 - (lg_sl ([.ref h0, .int (nI frm), .int (nI too)])).length) Slot.unset).toArray = ls at hl ⊢
  have hl : lv_has ls 3 [(0, .ref h0), (1, .int (nI frm)), (2, .int (nI too))] := hl
  refine lv_aload_n hx hb d_X_pieceMatches_0 rfl (lv_at hl 0 rfl) ?_
  refine lv_iload_n hx hb d_X_pieceMatches_1 rfl (lv_at hl 1 rfl) ?_
  refine lv_iload_n hx hb d_X_pieceMatches_2 rfl (lv_at hl 2 rfl) ?_
  refine r_X_startOnlyAt hft ht4 hx hb hml hown htB hK hP hD hS hA hl.1 (Nat.le_of_ble_eq_true rfl) ⟨Nat.le_of_ble_eq_true rfl, Nat.le_of_ble_eq_true rfl⟩ ⟨Nat.zero_le _, Nat.zero_le _⟩ d_X_pieceMatches_3 (fun s1 H locs hs1 hP hD hS => ?_)
  have hg1 : ∀ j, frm ≤ j → j ≤ too → s1 j = oI (gs frm j) := by
    intro j q1 q2
    unfold gs
    by_cases q : j = frm
    · subst q; rw [if_pos rfl]; exact hs1.1
    · rw [if_neg q]; exact hs1.2 j (by omega) q2
  refine lv_aload_n hx hb d_X_pieceMatches_6 rfl (lv_at hl 0 rfl) ?_
  refine lv_iload_n hx hb d_X_pieceMatches_7 rfl (lv_at hl 1 rfl) ?_
  refine lv_iload_n hx hb d_X_pieceMatches_8 rfl (lv_at hl 2 rfl) ?_
  refine lv_iconst (v := nI 0) hx hb d_X_pieceMatches_9 (by decide) ?_
  refine lv_topi (fun v_1 ev_1 => ?_)
  obtain rfl : v_1 = bI false := ev_1.trans rfl
  refine r_X_readPattern (b := false) hp hft ht4 (gs_sml (by omega)) hg1 hx hb hml hown htB hK hP hD hS hA hl.1 (Nat.le_of_ble_eq_true rfl) ⟨Nat.le_of_ble_eq_true rfl, Nat.le_of_ble_eq_true rfl⟩ ⟨Nat.zero_le _, Nat.zero_le _⟩ d_X_pieceMatches_10 (fun s2 H locs hs2 hP hD hS => ?_)
  have hm := rdp_sml (tx := tx) (pt := pt) (qt := qt) (pn := pn) (b := false) (frm := frm) (f := pn) (a := 0) (gs_sml (frm := frm) (by omega))
  refine lv_aload_n hx hb d_X_pieceMatches_13 rfl (lv_at hl 0 rfl) ?_
  refine va_get (D := (dC, dI)) (ci := 0) (v := .ref a4) (C := R_X) (T := F_X) (N := 6) hx hb htB in_X hown hK hP 0 rfl rfl 5 (by decide) (htB _ hfl_X_27) (fun _ h9 => h9) rfl d_X_pieceMatches_14 ?_
  refine lv_iload_n hx hb d_X_pieceMatches_17 rfl (lv_at hl 2 rfl) ?_
  refine va_iald hx hb hK hP 4 0 rfl rfl (vp_in_nI (n := too) (by omega) (by decide)) d_X_pieceMatches_18 ?_
  refine lv_topi (fun v_2 ev_2 => ?_)
  obtain rfl : v_2 = oI (rdp tx pt qt pn false frm pn 0 (gs frm) too) := (show v_2 = s2 too from ev_2.trans (by rw [nI_clamp (n := too) (by omega)])).trans (hs2 too hft (Nat.le_refl _))
  refine lv_iconst (v := -1) hx hb d_X_pieceMatches_19 (by decide) ?_
  refine lv_icmp_eq (tgt := 27) hx hb d_X_pieceMatches_20 (by decide) (fun c_3 => ?_) (fun c_3 => ?_)
  · have c_3 := (oI_ne (fun k q => Nat.le_trans (hm _ k q) (by decide))).mp c_3
    refine lv_iconst (v := nI 0) hx hb d_X_pieceMatches_27 (by decide) ?_
    exact W.zret (v := nI 0) hx hb hr (by rfl) (fun t ht hW => ⟨⟨_, s2, rfl, by unfold mX; first | exact isS_n ‹_› | exact isS_s ‹_›, by rw [ht]; exact hP, va_K.moved hW.alike hK, hD⟩, hS.F ht⟩) hS.2.2 d_X_pieceMatches_28
  · have c_3 := mt (oI_ne (fun k q => Nat.le_trans (hm _ k q) (by decide))).mpr c_3
    refine lv_iconst (v := nI 1) hx hb d_X_pieceMatches_23 (by decide) ?_
    refine lv_goto (tgt := 28) hx hb d_X_pieceMatches_24 (by decide) ?_
    exact W.zret (v := nI 1) hx hb hr (by rfl) (fun t ht hW => ⟨⟨_, s2, rfl, by unfold mX; first | exact isS_n ‹_› | exact isS_s ‹_›, by rw [ht]; exact hP, va_K.moved hW.alike hK, hD⟩, hS.F ht⟩) hS.2.2 d_X_pieceMatches_28

theorem r_X_pieceMatches {p : Program} {l : Launch} {e : Env} {R : Room} {s : State} {mm : MethodId} {args : Array Value} {below : List Frame} {meth : Method} {c : Code} {H : Heap} {locs : List Loc} {cells slots : Nat} {Q : State → Prop} {cc : ByteArray} {pcn nL : Nat} {ls : Array Slot} {rest : List Value} {dC : Nat → ClassId} {dI : Nat → Nat → Nat} {h0 a1 a2 a3 a4 : Nat} {cI cZ : ClassId} {tx pt qt sr : Nat → Int32} {tn pn : Nat} {A : Nat → Prop} {H0 : Heap} (hp : pn ≤ 200) {frm too : Nat} (hft : frm ≤ too) (ht4 : too ≤ 400) (hx : p.tables.exec = Jvm.exec) (hb : c.code = cc) (hml : c.maxLocals = nL) (hown : s.vm.findClass R_X = some mm.cls) (htB : ∀ w ∈ wB, w.before args s = true) (hK : va_K (dC, dI) classes (tyIZ cI cZ) s) (hP : va_P (dC, dI) classes (wX h0 a1 a2 a3 a4 cI cZ tx pt qt sr tn pn) H) (hD : va_D A (wX h0 a1 a2 a3 a4 cI cZ tx pt qt sr tn pn)) (hS : va_S A H0 H locs) (hA : ∀ q : Nat, H0.size ≤ q → A q) (hls : ls.size = nL) (hre : (rest.map fun v => v.category).sum ≤ 8) (hR : 5 + 1 ≤ R.frames ∧ 8 + (3 + 11) + 123 ≤ R.locals) (hce : cells ≤ R.cells ∧ slots ≤ R.slots) (hd : decode cc pcn = .ok (.invokevirtual 38, 3)) (kk : ∀ (r : Int32) (su : Nat → Int32) (H1 : Heap) (locs1 : List Loc), (r = bI (mX tx pt qt pn frm too)) → va_P (dC, dI) classes (wX h0 a1 a2 a3 a4 cI cZ tx pt qt su tn pn) H1 → va_D A (wX h0 a1 a2 a3 a4 cI cZ tx pt qt su tn pn) → va_S A H0 H1 locs1 → W p l e R s mm args below meth c H1 locs1 cells slots Q (F0 mm (pcn + 3) ls (.int r :: rest))) : W p l e R s mm args below meth c H locs cells slots Q (F0 mm pcn ls (.int (nI too) :: .int (nI frm) :: .ref h0 :: rest)) := by
  have hFc := va_free (wc := (wX h0 a1 a2 a3 a4 cI cZ tx pt qt sr tn pn)) hD hS hA [0, 1, 2, 3, 4] rfl
  refine va_calli (va_runV (As := [.int (nI frm), .int (nI too)]) (rest := rest) ⟨hx, hb, hml, hown, htB⟩ (c_X_pieceMatches l dC dI h0 a1 a2 a3 a4 cI cZ tx pt qt sr tn pn H.size hp frm too hft ht4) (cwV 2 htB (gV hml_X_38 hinm_X_pieceMatches hsel_X_pieceMatches hini_X hco_X_pieceMatches) rfl rfl rfl (by decide +kernel) hR) ⟨fun a U g mk q => by obtain ⟨q0, q1, qP, qK, qD⟩ := q; exact ⟨q0, q1, qP, va_K.moved (u := U) (U := U.calling g mk a) (Vm.Alike.refl U.vm) qK, qD⟩, va_recv hK hP (ci := 0) (q0 := 0) rfl rfl, fun U hU hW => ⟨rfl, by rw [hU], by rw [hU]; exact hP, va_K.moved hW.alike hK, hD.weaken (fun _ _ _ _ => trivial)⟩⟩ rfl rfl hls rfl (lv_room hre) hd ⟨hce.1, hce.2⟩) hS (fun q _ h => hFc q h) hFc (fun r su t H1 locs1 ht hvm hw hB hz1 hk1 hS1 => ?_)
  obtain ⟨hP1, hK1, hD1⟩ := hB
  rw [ht] at hP1
  have hj := va_join (wr := []) (w1 := (wX h0 a1 a2 a3 a4 cI cZ tx pt qt su tn pn)) hP hD [0, 1, 2, 3, 4] [] rfl rfl (by decide) (by decide) hk1 hFc hP1 hD1
  exact kk r su H1 locs1 hw hj.1 hj.2 hS1

set_option maxHeartbeats 4000000 in
set_option maxRecDepth 100000 in
theorem c_X_matches (l : Launch) (dC : Nat → ClassId) (dI : Nat → Nat → Nat) (h0 a1 a2 a3 a4 : Nat) (cI cZ : ClassId) (tx pt qt sr : Nat → Int32) (tn pn : Nat) (sz : Nat) (hp : pn ≤ 200) (ht : tn ≤ 400) : Met l y_X_matches (.code y_X_matches b_X_matches 1 (some .boolean) :: wB) (Rm 6 145) (va_Pc [.ref h0] (fun U => U.heap.size = sz ∧ va_P (dC, dI) classes (wX h0 a1 a2 a3 a4 cI cZ tx pt qt sr tn pn) U.heap ∧ va_K (dC, dI) classes (tyIZ cI cZ) U ∧ va_D (fun _ => True) (wX h0 a1 a2 a3 a4 cI cZ tx pt qt sr tn pn))) (va_Qi (fun (r : Int32) (su : Nat → Int32) => r = bI (mX tx pt qt pn 0 tn)) (fun (su : Nat → Int32) (t : State) => va_P (dC, dI) classes (wX h0 a1 a2 a3 a4 cI cZ tx pt qt su tn pn) t.heap ∧ va_K (dC, dI) classes (tyIZ cI cZ) t ∧ va_D (va_A (wX h0 a1 a2 a3 a4 cI cZ tx pt qt sr tn pn) sz) (wX h0 a1 a2 a3 a4 cI cZ tx pt qt su tn pn)) (va_A (wX h0 a1 a2 a3 a4 cI cZ tx pt qt sr tn pn) sz)) 0 0 (va_A (wX h0 a1 a2 a3 a4 cI cZ tx pt qt sr tn pn) sz) := by
  refine Met.ofW (cc := b_X_matches) (maxL := 1) (ret := (some .boolean)) (by decide) rfl ?_
  intro p e s mm args below meth c s₁ B hml hv
  obtain ⟨rfl, hsz, hP, hK, hD0⟩ := hv
  have hx := B.exec
  have hb := B.bytes
  have hr := B.returns
  have hts := atoms_spec (ws := (.code y_X_matches b_X_matches 1 (some .boolean) :: wB)) B.pre
  have htB : ∀ w ∈ wB, w.before _ s = true := fun w h => hts w (List.mem_cons_of_mem _ h)
  have hown : s.vm.findClass R_X = some mm.cls := findClass_of_methodNamed B.named
  have hlocks := B.notSynchronized
  subst hsz
  have hD := hD0.self (sz := s.heap.size)
  generalize hAe : va_A (wX h0 a1 a2 a3 a4 cI cZ tx pt qt sr tn pn) s.heap.size = A at hD ⊢
  have hA : ∀ q : Nat, s.heap.size ≤ q → A q := fun q h => by rw [← hAe]; exact Or.inr h
  have hS : va_S A s.heap s.heap [] := va_S.rf
  have hP : va_P (dC, dI) classes (wX h0 a1 a2 a3 a4 cI cZ tx pt qt sr tn pn) s.heap := hP
  have hl := lv_entry ([.ref h0]) (n := 1) (Nat.le_of_ble_eq_true rfl)
  rw [lg_entry_eq]
  generalize (lg_sl ([.ref h0]) ++ List.replicate (1 - (lg_sl ([.ref h0])).length) Slot.unset).toArray = ls at hl ⊢
  have hl : lv_has ls 1 [(0, .ref h0)] := hl
  refine lv_aload_n hx hb d_X_matches_0 rfl (lv_at hl 0 rfl) ?_
  refine lv_iconst (v := nI 0) hx hb d_X_matches_1 (by decide) ?_
  refine lv_aload_n hx hb d_X_matches_2 rfl (lv_at hl 0 rfl) ?_
  refine va_get (D := (dC, dI)) (ci := 0) (v := .int (nI tn)) (C := R_X) (T := F_X) (N := 6) hx hb htB in_X hown hK hP 0 rfl rfl 1 (by decide) (htB _ hfl_X_13) (fun _ h9 => h9) rfl d_X_matches_3 ?_
  refine r_X_pieceMatches hp (Nat.zero_le _) ht hx hb hml hown htB hK hP hD hS hA hl.1 (Nat.le_of_ble_eq_true rfl) ⟨Nat.le_of_ble_eq_true rfl, Nat.le_of_ble_eq_true rfl⟩ ⟨Nat.zero_le _, Nat.zero_le _⟩ d_X_matches_6 (fun r_s1 s1 H locs hs1 hP hD hS => ?_)
  obtain rfl := hs1
  exact W.zret (v := bI (mX tx pt qt pn 0 tn)) hx hb hr (bI_nar _) (fun t ht hW => ⟨⟨_, s1, rfl, rfl, by rw [ht]; exact hP, va_K.moved hW.alike hK, hD⟩, hS.F ht⟩) hS.2.2 d_X_matches_9

set_option maxHeartbeats 4000000 in
set_option maxRecDepth 100000 in
theorem c_X_matchingBeginning (l : Launch) (dC : Nat → ClassId) (dI : Nat → Nat → Nat) (h0 a1 a2 a3 a4 : Nat) (cI cZ : ClassId) (tx pt qt sr : Nat → Int32) (tn pn : Nat) (sz : Nat) (hp : pn ≤ 200) (ht : tn ≤ 400) (lg : Bool) : Met l y_X_matchingBeginning (.code y_X_matchingBeginning b_X_matchingBeginning 4 (some .int) :: wB) (Rm 5 123) (va_Pc [.ref h0, .int (bI lg)] (fun U => U.heap.size = sz ∧ va_P (dC, dI) classes (wX h0 a1 a2 a3 a4 cI cZ tx pt qt sr tn pn) U.heap ∧ va_K (dC, dI) classes (tyIZ cI cZ) U ∧ va_D (fun _ => True) (wX h0 a1 a2 a3 a4 cI cZ tx pt qt sr tn pn))) (va_Qi (fun (r : Int32) (su : Nat → Int32) => r = oI (fnd (fun j => mX tx pt qt pn 0 j) lg (tn + 1))) (fun (su : Nat → Int32) (t : State) => va_P (dC, dI) classes (wX h0 a1 a2 a3 a4 cI cZ tx pt qt su tn pn) t.heap ∧ va_K (dC, dI) classes (tyIZ cI cZ) t ∧ va_D (va_A (wX h0 a1 a2 a3 a4 cI cZ tx pt qt sr tn pn) sz) (wX h0 a1 a2 a3 a4 cI cZ tx pt qt su tn pn)) (va_A (wX h0 a1 a2 a3 a4 cI cZ tx pt qt sr tn pn) sz)) 0 0 (va_A (wX h0 a1 a2 a3 a4 cI cZ tx pt qt sr tn pn) sz) := by
  refine Met.ofW (cc := b_X_matchingBeginning) (maxL := 4) (ret := (some .int)) (by decide) rfl ?_
  intro p e s mm args below meth c s₁ B hml hv
  obtain ⟨rfl, hsz, hP, hK, hD0⟩ := hv
  have hx := B.exec
  have hb := B.bytes
  have hr := B.returns
  have hts := atoms_spec (ws := (.code y_X_matchingBeginning b_X_matchingBeginning 4 (some .int) :: wB)) B.pre
  have htB : ∀ w ∈ wB, w.before _ s = true := fun w h => hts w (List.mem_cons_of_mem _ h)
  have hown : s.vm.findClass R_X = some mm.cls := findClass_of_methodNamed B.named
  have hlocks := B.notSynchronized
  subst hsz
  have hD := hD0.self (sz := s.heap.size)
  generalize hAe : va_A (wX h0 a1 a2 a3 a4 cI cZ tx pt qt sr tn pn) s.heap.size = A at hD ⊢
  have hA : ∀ q : Nat, s.heap.size ≤ q → A q := fun q h => by rw [← hAe]; exact Or.inr h
  have hS : va_S A s.heap s.heap [] := va_S.rf
  have hP : va_P (dC, dI) classes (wX h0 a1 a2 a3 a4 cI cZ tx pt qt sr tn pn) s.heap := hP
  have hl := lv_entry ([.ref h0, .int (bI lg)]) (n := 4) (Nat.le_of_ble_eq_true rfl)
  rw [lg_entry_eq]
  generalize (lg_sl ([.ref h0, .int (bI lg)]) ++ List.replicate (4 - (lg_sl ([.ref h0, .int (bI lg)])).length) Slot.unset).toArray = ls at hl ⊢
  have hl : lv_has ls 4 [(0, .ref h0), (1, .int (bI lg))] := hl
  refine lv_aload_n hx hb d_X_matchingBeginning_0 rfl (lv_at hl 0 rfl) ?_
  refine lv_iconst (v := nI 0) hx hb d_X_matchingBeginning_1 (by decide) ?_
  refine lv_aload_n hx hb d_X_matchingBeginning_2 rfl (lv_at hl 0 rfl) ?_
  refine va_get (D := (dC, dI)) (ci := 0) (v := .int (nI tn)) (C := R_X) (T := F_X) (N := 6) hx hb htB in_X hown hK hP 0 rfl rfl 1 (by decide) (htB _ hfl_X_13) (fun _ h9 => h9) rfl d_X_matchingBeginning_3 ?_
  refine r_X_startOnlyAt (Nat.zero_le _) ht hx hb hml hown htB hK hP hD hS hA hl.1 (Nat.le_of_ble_eq_true rfl) ⟨Nat.le_of_ble_eq_true rfl, Nat.le_of_ble_eq_true rfl⟩ ⟨Nat.zero_le _, Nat.zero_le _⟩ d_X_matchingBeginning_6 (fun s1 H locs hs1 hP hD hS => ?_)
  have hg1 : ∀ j, 0 ≤ j → j ≤ tn → s1 j = oI (gs 0 j) := by
    intro j q1 q2
    unfold gs
    by_cases q : j = 0
    · subst q; rw [if_pos rfl]; exact hs1.1
    · rw [if_neg q]; exact hs1.2 j (by omega) q2
  refine lv_aload_n hx hb d_X_matchingBeginning_9 rfl (lv_at hl 0 rfl) ?_
  refine lv_iconst (v := nI 0) hx hb d_X_matchingBeginning_10 (by decide) ?_
  refine lv_aload_n hx hb d_X_matchingBeginning_11 rfl (lv_at hl 0 rfl) ?_
  refine va_get (D := (dC, dI)) (ci := 0) (v := .int (nI tn)) (C := R_X) (T := F_X) (N := 6) hx hb htB in_X hown hK hP 0 rfl rfl 1 (by decide) (htB _ hfl_X_13) (fun _ h9 => h9) rfl d_X_matchingBeginning_12 ?_
  refine lv_iconst (v := nI 0) hx hb d_X_matchingBeginning_15 (by decide) ?_
  refine lv_topi (fun v_1 ev_1 => ?_)
  obtain rfl : v_1 = bI false := ev_1.trans rfl
  refine r_X_readPattern (b := false) hp (Nat.zero_le _) ht (gs_sml (by omega)) hg1 hx hb hml hown htB hK hP hD hS hA hl.1 (Nat.le_of_ble_eq_true rfl) ⟨Nat.le_of_ble_eq_true rfl, Nat.le_of_ble_eq_true rfl⟩ ⟨Nat.zero_le _, Nat.zero_le _⟩ d_X_matchingBeginning_16 (fun s2 H locs hs2 hP hD hS => ?_)
  have hm := rdp_sml (tx := tx) (pt := pt) (qt := qt) (pn := pn) (b := false) (frm := 0) (f := pn) (a := 0) (gs_sml (frm := 0) (by omega))
  refine lv_iconst (v := -1) hx hb d_X_matchingBeginning_19 (by decide) ?_
  refine lv_istore_n (lv' := [(2, .int (-1)), (0, .ref h0), (1, .int (bI lg))]) hx hb d_X_matchingBeginning_20 rfl hl (by decide) rfl (fun ls hl => ?_)
  refine lv_iconst (v := nI 0) hx hb d_X_matchingBeginning_21 (by decide) ?_
  refine lv_istore_n (lv' := [(3, .int (nI 0)), (2, .int (-1)), (0, .ref h0), (1, .int (bI lg))]) hx hb d_X_matchingBeginning_22 rfl hl (by decide) rfl (fun ls hl => ?_)
  have loop : ∀ (n i : Nat), i ≤ 1000 → 1000 < i + n → i ≤ tn + 1 → ∀ ls : Array Slot, lv_has ls 4 [(3, .int (nI i)), (2, .int (oI (fnd (fun j => mX tx pt qt pn 0 j) lg i))), (0, .ref h0), (1, .int (bI lg))] → W p l e (Rm 5 123) s mm [.ref h0, .int (bI lg)].toArray below meth c H locs 0 0 (MQ below (va_Qi (fun (r : Int32) (su : Nat → Int32) => r = oI (fnd (fun j => mX tx pt qt pn 0 j) lg (tn + 1))) (fun (su : Nat → Int32) (t : State) => va_P (dC, dI) classes (wX h0 a1 a2 a3 a4 cI cZ tx pt qt su tn pn) t.heap ∧ va_K (dC, dI) classes (tyIZ cI cZ) t ∧ va_D A (wX h0 a1 a2 a3 a4 cI cZ tx pt qt su tn pn)) A) [.ref h0, .int (bI lg)].toArray s 0 0 A) (F0 mm 23 ls []) := by
    intro n
    induction n with
    | zero => intro i h1 h2; exact absurd h2 (by omega)
    | succ n ih =>
      intro i hi hn hit ls hl
      refine lv_iload_n hx hb d_X_matchingBeginning_23 rfl (lv_at hl 0 rfl) ?_
      refine lv_aload_n hx hb d_X_matchingBeginning_24 rfl (lv_at hl 2 rfl) ?_
      refine va_get (D := (dC, dI)) (ci := 0) (v := .int (nI tn)) (C := R_X) (T := F_X) (N := 6) hx hb htB in_X hown hK hP 0 rfl rfl 1 (by decide) (htB _ hfl_X_13) (fun _ h9 => h9) rfl d_X_matchingBeginning_25 ?_
      refine lv_icmp_gt (tgt := 58) hx hb d_X_matchingBeginning_28 (by decide) (fun c_1 => ?_) (fun c_1 => ?_)
      · have c_1 := (nI_ltI (by omega) (by omega)).mp c_1
        refine lv_iload_n hx hb d_X_matchingBeginning_58 rfl (lv_at hl 1 rfl) ?_
        exact W.iret (v := oI (fnd (fun j => mX tx pt qt pn 0 j) lg i)) hx hb hr (fun t ht hW => ⟨⟨_, s2, rfl, by rw [show i = tn + 1 by omega], by rw [ht]; exact hP, va_K.moved hW.alike hK, hD⟩, hS.F ht⟩) hS.2.2 d_X_matchingBeginning_59
      · have c_1 := mt (nI_ltI (by omega) (by omega)).mpr c_1
        refine lv_aload_n hx hb d_X_matchingBeginning_31 rfl (lv_at hl 2 rfl) ?_
        refine va_get (D := (dC, dI)) (ci := 0) (v := .ref a4) (C := R_X) (T := F_X) (N := 6) hx hb htB in_X hown hK hP 0 rfl rfl 5 (by decide) (htB _ hfl_X_27) (fun _ h9 => h9) rfl d_X_matchingBeginning_32 ?_
        refine lv_iload_n hx hb d_X_matchingBeginning_35 rfl (lv_at hl 0 rfl) ?_
        refine va_iald hx hb hK hP 4 0 rfl rfl (vp_in_nI (n := i) (by omega) (by decide)) d_X_matchingBeginning_36 ?_
        refine lv_topi (fun v_2 ev_2 => ?_)
        obtain rfl : v_2 = oI (rdp tx pt qt pn false 0 pn 0 (gs 0) i) := (show v_2 = s2 i from ev_2.trans (by rw [nI_clamp (n := i) (by omega)])).trans (hs2 i (Nat.zero_le _) (by omega))
        refine lv_iconst (v := -1) hx hb d_X_matchingBeginning_37 (by decide) ?_
        refine lv_icmp_eq (tgt := 52) hx hb d_X_matchingBeginning_38 (by decide) (fun c_3 => ?_) (fun c_3 => ?_)
        · have c_3 := (oI_ne (fun k q => Nat.le_trans (hm _ k q) (by decide))).mp c_3
          refine lv_iinc (v := nI (i + 1)) (lv' := [(3, .int (nI (i + 1))), (2, .int (oI (fnd (fun j => mX tx pt qt pn 0 j) lg i))), (0, .ref h0), (1, .int (bI lg))]) hx hb d_X_matchingBeginning_52 hl (k := 0) rfl (nI_add _ 1) (by decide) rfl (fun ls hl => ?_)
          refine lv_goto (tgt := 23) hx hb d_X_matchingBeginning_55 (by decide) ?_
          have hf1 : fnd (fun j => mX tx pt qt pn 0 j) lg (i + 1) = fnd (fun j => mX tx pt qt pn 0 j) lg i := (by first | exact fnd_m1 (isS_f ‹_›) | exact fnd_m2 ‹_› ‹_›)
          exact ih (i + 1) (by omega) (by omega) (by omega) ls (by rw [hf1]; exact (lv_sub hl [0, 1, 2, 3] rfl))
        · have c_3 := mt (oI_ne (fun k q => Nat.le_trans (hm _ k q) (by decide))).mpr c_3
          refine lv_iload_n hx hb d_X_matchingBeginning_41 rfl (lv_at hl 3 rfl) ?_
          refine lv_if_ne (tgt := 50) hx hb d_X_matchingBeginning_42 (by decide) (fun c_4 => ?_) (fun c_4 => ?_)
          · have c_4 := bI_nz.mp c_4
            refine lv_iload_n hx hb d_X_matchingBeginning_50 rfl (lv_at hl 0 rfl) ?_
            refine lv_istore_n (lv' := [(2, .int (nI i)), (3, .int (nI i)), (0, .ref h0), (1, .int (bI lg))]) hx hb d_X_matchingBeginning_51 rfl hl (by decide) rfl (fun ls hl => ?_)
            refine lv_iinc (v := nI (i + 1)) (lv' := [(3, .int (nI (i + 1))), (2, .int (nI i)), (0, .ref h0), (1, .int (bI lg))]) hx hb d_X_matchingBeginning_52 hl (k := 1) rfl (nI_add _ 1) (by decide) rfl (fun ls hl => ?_)
            refine lv_goto (tgt := 23) hx hb d_X_matchingBeginning_55 (by decide) ?_
            have hf1 : fnd (fun j => mX tx pt qt pn 0 j) lg (i + 1) = some i := fnd_hit (f := fun j => mX tx pt qt pn 0 j) (isS_t ‹_›) (by first | exact Or.inl ‹_› | exact Or.inr ‹_›)
            exact ih (i + 1) (by omega) (by omega) (by omega) ls (by rw [hf1]; exact (lv_sub hl [0, 1, 2, 3] rfl))
          · have c_4 := bI_z.mp c_4
            refine lv_iload_n hx hb d_X_matchingBeginning_45 rfl (lv_at hl 1 rfl) ?_
            refine lv_iconst (v := -1) hx hb d_X_matchingBeginning_46 (by decide) ?_
            refine lv_icmp_ne (tgt := 52) hx hb d_X_matchingBeginning_47 (by decide) (fun c_5 => ?_) (fun c_5 => ?_)
            · have c_5 := mt (fnd_none (by omega)).mpr c_5
              refine lv_iinc (v := nI (i + 1)) (lv' := [(3, .int (nI (i + 1))), (2, .int (oI (fnd (fun j => mX tx pt qt pn 0 j) lg i))), (0, .ref h0), (1, .int (bI lg))]) hx hb d_X_matchingBeginning_52 hl (k := 0) rfl (nI_add _ 1) (by decide) rfl (fun ls hl => ?_)
              refine lv_goto (tgt := 23) hx hb d_X_matchingBeginning_55 (by decide) ?_
              have hf1 : fnd (fun j => mX tx pt qt pn 0 j) lg (i + 1) = fnd (fun j => mX tx pt qt pn 0 j) lg i := (by first | exact fnd_m1 (isS_f ‹_›) | exact fnd_m2 ‹_› ‹_›)
              exact ih (i + 1) (by omega) (by omega) (by omega) ls (by rw [hf1]; exact (lv_sub hl [0, 1, 2, 3] rfl))
            · have c_5 := (fnd_none (by omega)).mp c_5
              refine lv_iload_n hx hb d_X_matchingBeginning_50 rfl (lv_at hl 0 rfl) ?_
              refine lv_istore_n (lv' := [(2, .int (nI i)), (3, .int (nI i)), (0, .ref h0), (1, .int (bI lg))]) hx hb d_X_matchingBeginning_51 rfl hl (by decide) rfl (fun ls hl => ?_)
              refine lv_iinc (v := nI (i + 1)) (lv' := [(3, .int (nI (i + 1))), (2, .int (nI i)), (0, .ref h0), (1, .int (bI lg))]) hx hb d_X_matchingBeginning_52 hl (k := 1) rfl (nI_add _ 1) (by decide) rfl (fun ls hl => ?_)
              refine lv_goto (tgt := 23) hx hb d_X_matchingBeginning_55 (by decide) ?_
              have hf1 : fnd (fun j => mX tx pt qt pn 0 j) lg (i + 1) = some i := fnd_hit (f := fun j => mX tx pt qt pn 0 j) (isS_t ‹_›) (by first | exact Or.inl ‹_› | exact Or.inr ‹_›)
              exact ih (i + 1) (by omega) (by omega) (by omega) ls (by rw [hf1]; exact (lv_sub hl [0, 1, 2, 3] rfl))
  exact loop 1001 0 (by omega) (by omega) (by omega) ls (lv_sub hl [0, 1, 2, 3] rfl)

theorem r_X_matchingBeginning {p : Program} {l : Launch} {e : Env} {R : Room} {s : State} {mm : MethodId} {args : Array Value} {below : List Frame} {meth : Method} {c : Code} {H : Heap} {locs : List Loc} {cells slots : Nat} {Q : State → Prop} {cc : ByteArray} {pcn nL : Nat} {ls : Array Slot} {rest : List Value} {dC : Nat → ClassId} {dI : Nat → Nat → Nat} {h0 a1 a2 a3 a4 : Nat} {cI cZ : ClassId} {tx pt qt sr : Nat → Int32} {tn pn : Nat} {A : Nat → Prop} {H0 : Heap} (hp : pn ≤ 200) (ht : tn ≤ 400) {lg : Bool} (hx : p.tables.exec = Jvm.exec) (hb : c.code = cc) (hml : c.maxLocals = nL) (hown : s.vm.findClass R_X = some mm.cls) (htB : ∀ w ∈ wB, w.before args s = true) (hK : va_K (dC, dI) classes (tyIZ cI cZ) s) (hP : va_P (dC, dI) classes (wX h0 a1 a2 a3 a4 cI cZ tx pt qt sr tn pn) H) (hD : va_D A (wX h0 a1 a2 a3 a4 cI cZ tx pt qt sr tn pn)) (hS : va_S A H0 H locs) (hA : ∀ q : Nat, H0.size ≤ q → A q) (hls : ls.size = nL) (hre : (rest.map fun v => v.category).sum ≤ 8) (hR : 5 + 1 ≤ R.frames ∧ 8 + (4 + 11) + 123 ≤ R.locals) (hce : cells ≤ R.cells ∧ slots ≤ R.slots) (hd : decode cc pcn = .ok (.invokevirtual 53, 3)) (kk : ∀ (r : Int32) (su : Nat → Int32) (H1 : Heap) (locs1 : List Loc), (r = oI (fnd (fun j => mX tx pt qt pn 0 j) lg (tn + 1))) → va_P (dC, dI) classes (wX h0 a1 a2 a3 a4 cI cZ tx pt qt su tn pn) H1 → va_D A (wX h0 a1 a2 a3 a4 cI cZ tx pt qt su tn pn) → va_S A H0 H1 locs1 → W p l e R s mm args below meth c H1 locs1 cells slots Q (F0 mm (pcn + 3) ls (.int r :: rest))) : W p l e R s mm args below meth c H locs cells slots Q (F0 mm pcn ls (.int (bI lg) :: .ref h0 :: rest)) := by
  have hFc := va_free (wc := (wX h0 a1 a2 a3 a4 cI cZ tx pt qt sr tn pn)) hD hS hA [0, 1, 2, 3, 4] rfl
  refine va_calli (va_runV (As := [.int (bI lg)]) (rest := rest) ⟨hx, hb, hml, hown, htB⟩ (c_X_matchingBeginning l dC dI h0 a1 a2 a3 a4 cI cZ tx pt qt sr tn pn H.size hp ht lg) (cwV 1 htB (gV hml_X_53 hinm_X_matchingBeginning hsel_X_matchingBeginning hini_X hco_X_matchingBeginning) rfl rfl rfl (by decide +kernel) hR) ⟨fun a U g mk q => by obtain ⟨q0, q1, qP, qK, qD⟩ := q; exact ⟨q0, q1, qP, va_K.moved (u := U) (U := U.calling g mk a) (Vm.Alike.refl U.vm) qK, qD⟩, va_recv hK hP (ci := 0) (q0 := 0) rfl rfl, fun U hU hW => ⟨rfl, by rw [hU], by rw [hU]; exact hP, va_K.moved hW.alike hK, hD.weaken (fun _ _ _ _ => trivial)⟩⟩ rfl rfl hls rfl (lv_room hre) hd ⟨hce.1, hce.2⟩) hS (fun q _ h => hFc q h) hFc (fun r su t H1 locs1 ht hvm hw hB hz1 hk1 hS1 => ?_)
  obtain ⟨hP1, hK1, hD1⟩ := hB
  rw [ht] at hP1
  have hj := va_join (wr := []) (w1 := (wX h0 a1 a2 a3 a4 cI cZ tx pt qt su tn pn)) hP hD [0, 1, 2, 3, 4] [] rfl rfl (by decide) (by decide) hk1 hFc hP1 hD1
  exact kk r su H1 locs1 hw hj.1 hj.2 hS1

set_option maxHeartbeats 4000000 in
set_option maxRecDepth 100000 in
theorem c_X_matchingEnd (l : Launch) (dC : Nat → ClassId) (dI : Nat → Nat → Nat) (h0 a1 a2 a3 a4 : Nat) (cI cZ : ClassId) (tx pt qt sr : Nat → Int32) (tn pn : Nat) (sz : Nat) (hp : pn ≤ 200) (ht : tn ≤ 400) (lg : Bool) : Met l y_X_matchingEnd (.code y_X_matchingEnd b_X_matchingEnd 3 (some .int) :: wB) (Rm 5 123) (va_Pc [.ref h0, .int (bI lg)] (fun U => U.heap.size = sz ∧ va_P (dC, dI) classes (wX h0 a1 a2 a3 a4 cI cZ tx pt qt sr tn pn) U.heap ∧ va_K (dC, dI) classes (tyIZ cI cZ) U ∧ va_D (fun _ => True) (wX h0 a1 a2 a3 a4 cI cZ tx pt qt sr tn pn))) (va_Qi (fun (r : Int32) (su : Nat → Int32) => r = eI tn (rdp tx pt qt pn lg 0 pn 0 ga tn)) (fun (su : Nat → Int32) (t : State) => va_P (dC, dI) classes (wX h0 a1 a2 a3 a4 cI cZ tx pt qt su tn pn) t.heap ∧ va_K (dC, dI) classes (tyIZ cI cZ) t ∧ va_D (va_A (wX h0 a1 a2 a3 a4 cI cZ tx pt qt sr tn pn) sz) (wX h0 a1 a2 a3 a4 cI cZ tx pt qt su tn pn)) (va_A (wX h0 a1 a2 a3 a4 cI cZ tx pt qt sr tn pn) sz)) 0 0 (va_A (wX h0 a1 a2 a3 a4 cI cZ tx pt qt sr tn pn) sz) := by
  refine Met.ofW (cc := b_X_matchingEnd) (maxL := 3) (ret := (some .int)) (by decide) rfl ?_
  intro p e s mm args below meth c s₁ B hml hv
  obtain ⟨rfl, hsz, hP, hK, hD0⟩ := hv
  have hx := B.exec
  have hb := B.bytes
  have hr := B.returns
  have hts := atoms_spec (ws := (.code y_X_matchingEnd b_X_matchingEnd 3 (some .int) :: wB)) B.pre
  have htB : ∀ w ∈ wB, w.before _ s = true := fun w h => hts w (List.mem_cons_of_mem _ h)
  have hown : s.vm.findClass R_X = some mm.cls := findClass_of_methodNamed B.named
  have hlocks := B.notSynchronized
  subst hsz
  have hD := hD0.self (sz := s.heap.size)
  generalize hAe : va_A (wX h0 a1 a2 a3 a4 cI cZ tx pt qt sr tn pn) s.heap.size = A at hD ⊢
  have hA : ∀ q : Nat, s.heap.size ≤ q → A q := fun q h => by rw [← hAe]; exact Or.inr h
  have hS : va_S A s.heap s.heap [] := va_S.rf
  have hP : va_P (dC, dI) classes (wX h0 a1 a2 a3 a4 cI cZ tx pt qt sr tn pn) s.heap := hP
  have hl := lv_entry ([.ref h0, .int (bI lg)]) (n := 3) (Nat.le_of_ble_eq_true rfl)
  rw [lg_entry_eq]
  generalize (lg_sl ([.ref h0, .int (bI lg)]) ++ List.replicate (3 - (lg_sl ([.ref h0, .int (bI lg)])).length) Slot.unset).toArray = ls at hl ⊢
  have hl : lv_has ls 3 [(0, .ref h0), (1, .int (bI lg))] := hl
  refine lv_aload_n hx hb d_X_matchingEnd_0 rfl (lv_at hl 0 rfl) ?_
  refine r_X_startAnywhere ht hx hb hml hown htB hK hP hD hS hA hl.1 (Nat.le_of_ble_eq_true rfl) ⟨Nat.le_of_ble_eq_true rfl, Nat.le_of_ble_eq_true rfl⟩ ⟨Nat.zero_le _, Nat.zero_le _⟩ d_X_matchingEnd_1 (fun s1 H locs hs1 hP hD hS => ?_)
  have hg1 : ∀ j, 0 ≤ j → j ≤ tn → s1 j = oI (ga j) := by
    intro j q1 q2
    unfold ga
    rw [if_pos (by omega)]
    exact hs1 j q2
  refine lv_aload_n hx hb d_X_matchingEnd_4 rfl (lv_at hl 0 rfl) ?_
  refine lv_iconst (v := nI 0) hx hb d_X_matchingEnd_5 (by decide) ?_
  refine lv_aload_n hx hb d_X_matchingEnd_6 rfl (lv_at hl 0 rfl) ?_
  refine va_get (D := (dC, dI)) (ci := 0) (v := .int (nI tn)) (C := R_X) (T := F_X) (N := 6) hx hb htB in_X hown hK hP 0 rfl rfl 1 (by decide) (htB _ hfl_X_13) (fun _ h9 => h9) rfl d_X_matchingEnd_7 ?_
  refine lv_iload_n hx hb d_X_matchingEnd_10 rfl (lv_at hl 1 rfl) ?_
  refine r_X_readPattern (b := lg) hp (Nat.zero_le _) ht ga_sml hg1 hx hb hml hown htB hK hP hD hS hA hl.1 (Nat.le_of_ble_eq_true rfl) ⟨Nat.le_of_ble_eq_true rfl, Nat.le_of_ble_eq_true rfl⟩ ⟨Nat.zero_le _, Nat.zero_le _⟩ d_X_matchingEnd_11 (fun s2 H locs hs2 hP hD hS => ?_)
  have hm := rdp_sml (tx := tx) (pt := pt) (qt := qt) (pn := pn) (b := lg) (frm := 0) (f := pn) (a := 0) ga_sml
  refine lv_aload_n hx hb d_X_matchingEnd_14 rfl (lv_at hl 0 rfl) ?_
  refine va_get (D := (dC, dI)) (ci := 0) (v := .ref a4) (C := R_X) (T := F_X) (N := 6) hx hb htB in_X hown hK hP 0 rfl rfl 5 (by decide) (htB _ hfl_X_27) (fun _ h9 => h9) rfl d_X_matchingEnd_15 ?_
  refine lv_aload_n hx hb d_X_matchingEnd_18 rfl (lv_at hl 0 rfl) ?_
  refine va_get (D := (dC, dI)) (ci := 0) (v := .int (nI tn)) (C := R_X) (T := F_X) (N := 6) hx hb htB in_X hown hK hP 0 rfl rfl 1 (by decide) (htB _ hfl_X_13) (fun _ h9 => h9) rfl d_X_matchingEnd_19 ?_
  refine va_iald hx hb hK hP 4 0 rfl rfl (vp_in_nI (n := tn) (by omega) (by decide)) d_X_matchingEnd_22 ?_
  refine lv_topi (fun v_1 ev_1 => ?_)
  obtain rfl : v_1 = oI (rdp tx pt qt pn lg 0 pn 0 ga tn) := (show v_1 = s2 tn from ev_1.trans (by rw [nI_clamp (n := tn) (by omega)])).trans (hs2 tn (Nat.zero_le _) (Nat.le_refl _))
  refine lv_istore_n (lv' := [(2, .int (oI (rdp tx pt qt pn lg 0 pn 0 ga tn))), (0, .ref h0), (1, .int (bI lg))]) hx hb d_X_matchingEnd_23 rfl hl (by decide) rfl (fun ls hl => ?_)
  refine lv_iload_n hx hb d_X_matchingEnd_24 rfl (lv_at hl 0 rfl) ?_
  refine lv_iconst (v := -1) hx hb d_X_matchingEnd_25 (by decide) ?_
  refine lv_icmp_ne (tgt := 33) hx hb d_X_matchingEnd_26 (by decide) (fun c_2 => ?_) (fun c_2 => ?_)
  · have c_2 := mt (oI_ne (fun k q => Nat.le_trans (hm _ k q) (by decide))).mpr c_2
    refine lv_aload_n hx hb d_X_matchingEnd_33 rfl (lv_at hl 1 rfl) ?_
    refine va_get (D := (dC, dI)) (ci := 0) (v := .int (nI tn)) (C := R_X) (T := F_X) (N := 6) hx hb htB in_X hown hK hP 0 rfl rfl 1 (by decide) (htB _ hfl_X_13) (fun _ h9 => h9) rfl d_X_matchingEnd_34 ?_
    refine lv_iload_n hx hb d_X_matchingEnd_37 rfl (lv_at hl 0 rfl) ?_
    refine lv_isub hx hb d_X_matchingEnd_38 ?_
    refine lv_topi (fun v_3 ev_3 => ?_)
    exact W.iret (v := v_3) hx hb hr (fun t ht hW => ⟨⟨_, s2, rfl, by first | (rw [‹rdp tx pt qt pn lg 0 pn 0 ga tn = none›]; rfl) | (subst_vars; cases q : rdp tx pt qt pn lg 0 pn 0 ga tn with
      | none => exact absurd q ‹_›
      | some k => rfl), by rw [ht]; exact hP, va_K.moved hW.alike hK, hD⟩, hS.F ht⟩) hS.2.2 d_X_matchingEnd_39
  · have c_2 := (oI_ne (fun k q => Nat.le_trans (hm _ k q) (by decide))).mp c_2
    refine lv_iconst (v := -1) hx hb d_X_matchingEnd_29 (by decide) ?_
    refine lv_goto (tgt := 39) hx hb d_X_matchingEnd_30 (by decide) ?_
    exact W.iret (v := -1) hx hb hr (fun t ht hW => ⟨⟨_, s2, rfl, by first | (rw [‹rdp tx pt qt pn lg 0 pn 0 ga tn = none›]; rfl) | (subst_vars; cases q : rdp tx pt qt pn lg 0 pn 0 ga tn with
      | none => exact absurd q ‹_›
      | some k => rfl), by rw [ht]; exact hP, va_K.moved hW.alike hK, hD⟩, hS.F ht⟩) hS.2.2 d_X_matchingEnd_39

theorem r_X_matchingEnd {p : Program} {l : Launch} {e : Env} {R : Room} {s : State} {mm : MethodId} {args : Array Value} {below : List Frame} {meth : Method} {c : Code} {H : Heap} {locs : List Loc} {cells slots : Nat} {Q : State → Prop} {cc : ByteArray} {pcn nL : Nat} {ls : Array Slot} {rest : List Value} {dC : Nat → ClassId} {dI : Nat → Nat → Nat} {h0 a1 a2 a3 a4 : Nat} {cI cZ : ClassId} {tx pt qt sr : Nat → Int32} {tn pn : Nat} {A : Nat → Prop} {H0 : Heap} (hp : pn ≤ 200) (ht : tn ≤ 400) {lg : Bool} (hx : p.tables.exec = Jvm.exec) (hb : c.code = cc) (hml : c.maxLocals = nL) (hown : s.vm.findClass R_X = some mm.cls) (htB : ∀ w ∈ wB, w.before args s = true) (hK : va_K (dC, dI) classes (tyIZ cI cZ) s) (hP : va_P (dC, dI) classes (wX h0 a1 a2 a3 a4 cI cZ tx pt qt sr tn pn) H) (hD : va_D A (wX h0 a1 a2 a3 a4 cI cZ tx pt qt sr tn pn)) (hS : va_S A H0 H locs) (hA : ∀ q : Nat, H0.size ≤ q → A q) (hls : ls.size = nL) (hre : (rest.map fun v => v.category).sum ≤ 8) (hR : 5 + 1 ≤ R.frames ∧ 8 + (3 + 11) + 123 ≤ R.locals) (hce : cells ≤ R.cells ∧ slots ≤ R.slots) (hd : decode cc pcn = .ok (.invokevirtual 49, 3)) (kk : ∀ (r : Int32) (su : Nat → Int32) (H1 : Heap) (locs1 : List Loc), (r = eI tn (rdp tx pt qt pn lg 0 pn 0 ga tn)) → va_P (dC, dI) classes (wX h0 a1 a2 a3 a4 cI cZ tx pt qt su tn pn) H1 → va_D A (wX h0 a1 a2 a3 a4 cI cZ tx pt qt su tn pn) → va_S A H0 H1 locs1 → W p l e R s mm args below meth c H1 locs1 cells slots Q (F0 mm (pcn + 3) ls (.int r :: rest))) : W p l e R s mm args below meth c H locs cells slots Q (F0 mm pcn ls (.int (bI lg) :: .ref h0 :: rest)) := by
  have hFc := va_free (wc := (wX h0 a1 a2 a3 a4 cI cZ tx pt qt sr tn pn)) hD hS hA [0, 1, 2, 3, 4] rfl
  refine va_calli (va_runV (As := [.int (bI lg)]) (rest := rest) ⟨hx, hb, hml, hown, htB⟩ (c_X_matchingEnd l dC dI h0 a1 a2 a3 a4 cI cZ tx pt qt sr tn pn H.size hp ht lg) (cwV 1 htB (gV hml_X_49 hinm_X_matchingEnd hsel_X_matchingEnd hini_X hco_X_matchingEnd) rfl rfl rfl (by decide +kernel) hR) ⟨fun a U g mk q => by obtain ⟨q0, q1, qP, qK, qD⟩ := q; exact ⟨q0, q1, qP, va_K.moved (u := U) (U := U.calling g mk a) (Vm.Alike.refl U.vm) qK, qD⟩, va_recv hK hP (ci := 0) (q0 := 0) rfl rfl, fun U hU hW => ⟨rfl, by rw [hU], by rw [hU]; exact hP, va_K.moved hW.alike hK, hD.weaken (fun _ _ _ _ => trivial)⟩⟩ rfl rfl hls rfl (lv_room hre) hd ⟨hce.1, hce.2⟩) hS (fun q _ h => hFc q h) hFc (fun r su t H1 locs1 ht hvm hw hB hz1 hk1 hS1 => ?_)
  obtain ⟨hP1, hK1, hD1⟩ := hB
  rw [ht] at hP1
  have hj := va_join (wr := []) (w1 := (wX h0 a1 a2 a3 a4 cI cZ tx pt qt su tn pn)) hP hD [0, 1, 2, 3, 4] [] rfl rfl (by decide) (by decide) hk1 hFc hP1 hD1
  exact kk r su H1 locs1 hw hj.1 hj.2 hS1

set_option maxHeartbeats 4000000 in
set_option maxRecDepth 100000 in
theorem c_X_cut (l : Launch) (dC : Nat → ClassId) (dI : Nat → Nat → Nat) (h0 a1 a2 a3 a4 : Nat) (cI cZ : ClassId) (tx pt qt sr : Nat → Int32) (tn pn : Nat) (sz : Nat) (hp : pn ≤ 200) (ht : tn ≤ 400) (en lg : Bool) : Met l y_X_cut (.code y_X_cut b_X_cut 3 (some .int) :: wB) (Rm 6 146) (va_Pc [.ref h0, .int (bI en), .int (bI lg)] (fun U => U.heap.size = sz ∧ va_P (dC, dI) classes (wX h0 a1 a2 a3 a4 cI cZ tx pt qt sr tn pn) U.heap ∧ va_K (dC, dI) classes (tyIZ cI cZ) U ∧ va_D (fun _ => True) (wX h0 a1 a2 a3 a4 cI cZ tx pt qt sr tn pn))) (va_Qi (fun (r : Int32) (su : Nat → Int32) => r = if en = true then eI tn (rdp tx pt qt pn lg 0 pn 0 ga tn) else oI (fnd (fun j => mX tx pt qt pn 0 j) lg (tn + 1))) (fun (su : Nat → Int32) (t : State) => va_P (dC, dI) classes (wX h0 a1 a2 a3 a4 cI cZ tx pt qt su tn pn) t.heap ∧ va_K (dC, dI) classes (tyIZ cI cZ) t ∧ va_D (va_A (wX h0 a1 a2 a3 a4 cI cZ tx pt qt sr tn pn) sz) (wX h0 a1 a2 a3 a4 cI cZ tx pt qt su tn pn)) (va_A (wX h0 a1 a2 a3 a4 cI cZ tx pt qt sr tn pn) sz)) 0 0 (va_A (wX h0 a1 a2 a3 a4 cI cZ tx pt qt sr tn pn) sz) := by
  refine Met.ofW (cc := b_X_cut) (maxL := 3) (ret := (some .int)) (by decide) rfl ?_
  intro p e s mm args below meth c s₁ B hml hv
  obtain ⟨rfl, hsz, hP, hK, hD0⟩ := hv
  have hx := B.exec
  have hb := B.bytes
  have hr := B.returns
  have hts := atoms_spec (ws := (.code y_X_cut b_X_cut 3 (some .int) :: wB)) B.pre
  have htB : ∀ w ∈ wB, w.before _ s = true := fun w h => hts w (List.mem_cons_of_mem _ h)
  have hown : s.vm.findClass R_X = some mm.cls := findClass_of_methodNamed B.named
  have hlocks := B.notSynchronized
  subst hsz
  have hD := hD0.self (sz := s.heap.size)
  generalize hAe : va_A (wX h0 a1 a2 a3 a4 cI cZ tx pt qt sr tn pn) s.heap.size = A at hD ⊢
  have hA : ∀ q : Nat, s.heap.size ≤ q → A q := fun q h => by rw [← hAe]; exact Or.inr h
  have hS : va_S A s.heap s.heap [] := va_S.rf
  have hP : va_P (dC, dI) classes (wX h0 a1 a2 a3 a4 cI cZ tx pt qt sr tn pn) s.heap := hP
  have hl := lv_entry ([.ref h0, .int (bI en), .int (bI lg)]) (n := 3) (Nat.le_of_ble_eq_true rfl)
  rw [lg_entry_eq]
  generalize (lg_sl ([.ref h0, .int (bI en), .int (bI lg)]) ++ List.replicate (3 - (lg_sl ([.ref h0, .int (bI en), .int (bI lg)])).length) Slot.unset).toArray = ls at hl ⊢
  have hl : lv_has ls 3 [(0, .ref h0), (1, .int (bI en)), (2, .int (bI lg))] := hl
  refine lv_iload_n hx hb d_X_cut_0 rfl (lv_at hl 1 rfl) ?_
  refine lv_if_eq (tgt := 12) hx hb d_X_cut_1 (by decide) (fun c_1 => ?_) (fun c_1 => ?_)
  · have c_1 := bI_z.mp c_1
    refine lv_aload_n hx hb d_X_cut_12 rfl (lv_at hl 0 rfl) ?_
    refine lv_iload_n hx hb d_X_cut_13 rfl (lv_at hl 2 rfl) ?_
    refine r_X_matchingBeginning hp ht hx hb hml hown htB hK hP hD hS hA hl.1 (Nat.le_of_ble_eq_true rfl) ⟨Nat.le_of_ble_eq_true rfl, Nat.le_of_ble_eq_true rfl⟩ ⟨Nat.zero_le _, Nat.zero_le _⟩ d_X_cut_14 (fun r_s1 s1 H locs hs1 hP hD hS => ?_)
    exact W.iret (v := r_s1) hx hb hr (fun t ht hW => ⟨⟨_, s1, rfl, by first | (rw [if_pos ‹_›]; exact hs1) | (rw [if_neg (by rw [‹en = false›]; decide)]; exact hs1), by rw [ht]; exact hP, va_K.moved hW.alike hK, hD⟩, hS.F ht⟩) hS.2.2 d_X_cut_17
  · have c_1 := bI_nz.mp c_1
    refine lv_aload_n hx hb d_X_cut_4 rfl (lv_at hl 0 rfl) ?_
    refine lv_iload_n hx hb d_X_cut_5 rfl (lv_at hl 2 rfl) ?_
    refine r_X_matchingEnd hp ht hx hb hml hown htB hK hP hD hS hA hl.1 (Nat.le_of_ble_eq_true rfl) ⟨Nat.le_of_ble_eq_true rfl, Nat.le_of_ble_eq_true rfl⟩ ⟨Nat.zero_le _, Nat.zero_le _⟩ d_X_cut_6 (fun r_s1 s1 H locs hs1 hP hD hS => ?_)
    refine lv_goto (tgt := 17) hx hb d_X_cut_9 (by decide) ?_
    exact W.iret (v := r_s1) hx hb hr (fun t ht hW => ⟨⟨_, s1, rfl, by first | (rw [if_pos ‹_›]; exact hs1) | (rw [if_neg (by rw [‹en = false›]; decide)]; exact hs1), by rw [ht]; exact hP, va_K.moved hW.alike hK, hD⟩, hS.F ht⟩) hS.2.2 d_X_cut_17

set_option maxHeartbeats 4000000 in
set_option maxRecDepth 100000 in
theorem c_X_count (l : Launch) (dC : Nat → ClassId) (dI : Nat → Nat → Nat) (h0 a1 a2 a3 a4 : Nat) (cI cZ : ClassId) (tx pt qt sr : Nat → Int32) (tn pn : Nat) (hp : pn ≤ 200) (wh : Int32) : Met l y_X_count (.code y_X_count b_X_count 2 (some .int) :: wB) (Rm 4 88) (va_Pc [.ref h0, .int wh] (fun U => va_P (dC, dI) classes (wX h0 a1 a2 a3 a4 cI cZ tx pt qt sr tn pn) U.heap ∧ va_K (dC, dI) classes (tyIZ cI cZ) U)) (vp_Si (fun r => r = ctX tn pn pt qt wh)) 0 0 (fun _ => False) := by
  refine Met.ofW (cc := b_X_count) (maxL := 2) (ret := (some .int)) (by decide) rfl ?_
  intro p e s mm args below meth c s₁ B hml hv
  obtain ⟨rfl, hP, hK⟩ := hv
  have hx := B.exec
  have hb := B.bytes
  have hr := B.returns
  have hts := atoms_spec (ws := (.code y_X_count b_X_count 2 (some .int) :: wB)) B.pre
  have htB : ∀ w ∈ wB, w.before _ s = true := fun w h => hts w (List.mem_cons_of_mem _ h)
  have hown : s.vm.findClass R_X = some mm.cls := findClass_of_methodNamed B.named
  have hlocks := B.notSynchronized
  have hl := lv_entry ([.ref h0, .int wh]) (n := 2) (Nat.le_of_ble_eq_true rfl)
  rw [lg_entry_eq]
  generalize (lg_sl ([.ref h0, .int wh]) ++ List.replicate (2 - (lg_sl ([.ref h0, .int wh])).length) Slot.unset).toArray = ls at hl ⊢
  have hl : lv_has ls 2 [(0, .ref h0), (1, .int wh)] := hl
  refine lv_iload_n hx hb d_X_count_0 rfl (lv_at hl 1 rfl) ?_
  by_cases w0 : wh = nI 0
  · refine lv_tableIn (tgt := 32) (off := 31) hx hb d_X_count_1 (by rw [w0]; decide) (by rw [w0]; decide) (by rw [w0]; decide) (by decide) ?_
    refine lv_aload_n hx hb d_X_count_32 rfl (lv_at hl 0 rfl) ?_
    refine va_get (D := (dC, dI)) (ci := 0) (v := .int (nI tn)) (C := R_X) (T := F_X) (N := 6) hx hb htB in_X hown hK hP 0 rfl rfl 1 (by decide) (htB _ hfl_X_13) (fun _ h9 => h9) rfl d_X_count_33 ?_
    exact W.iret (v := nI tn) hx hb hr (fun t ht hW => ⟨_, rfl, by unfold ctX; rw [if_pos w0], ht⟩) (fun q h => nomatch h) d_X_count_36
  by_cases w1 : wh = nI 1
  · refine lv_tableIn (tgt := 37) (off := 36) hx hb d_X_count_1 (by rw [w1]; decide) (by rw [w1]; decide) (by rw [w1]; decide) (by decide) ?_
    refine lv_aload_n hx hb d_X_count_37 rfl (lv_at hl 0 rfl) ?_
    refine va_get (D := (dC, dI)) (ci := 0) (v := .int (nI pn)) (C := R_X) (T := F_X) (N := 6) hx hb htB in_X hown hK hP 0 rfl rfl 4 (by decide) (htB _ hfl_X_24) (fun _ h9 => h9) rfl d_X_count_38 ?_
    exact W.iret (v := nI pn) hx hb hr (fun t ht hW => ⟨_, rfl, by unfold ctX; rw [if_neg w0, if_pos w1], ht⟩) (fun q h => nomatch h) d_X_count_41
  by_cases w2 : wh = nI 2
  · refine lv_tableIn (tgt := 42) (off := 41) hx hb d_X_count_1 (by rw [w2]; decide) (by rw [w2]; decide) (by rw [w2]; decide) (by decide) ?_
    refine lv_aload_n hx hb d_X_count_42 rfl (lv_at hl 0 rfl) ?_
    refine r_X_quotedCount hp hx hb hml hown htB hK hP hl.1 (Nat.le_of_ble_eq_true rfl) ⟨Nat.le_of_ble_eq_true rfl, Nat.le_of_ble_eq_true rfl⟩ ⟨Nat.zero_le _, Nat.zero_le _⟩ d_X_count_43 ?_
    exact W.iret (v := nI (cq qt pn)) hx hb hr (fun t ht hW => ⟨_, rfl, by unfold ctX; rw [if_neg w0, if_neg w1, if_pos w2], ht⟩) (fun q h => nomatch h) d_X_count_46
  by_cases w3 : wh = nI 3
  · refine lv_tableIn (tgt := 47) (off := 46) hx hb d_X_count_1 (by rw [w3]; decide) (by rw [w3]; decide) (by rw [w3]; decide) (by decide) ?_
    refine lv_aload_n hx hb d_X_count_47 rfl (lv_at hl 0 rfl) ?_
    refine r_X_setCount hp hx hb hml hown htB hK hP hl.1 (Nat.le_of_ble_eq_true rfl) ⟨Nat.le_of_ble_eq_true rfl, Nat.le_of_ble_eq_true rfl⟩ ⟨Nat.zero_le _, Nat.zero_le _⟩ d_X_count_48 ?_
    exact W.iret (v := nI (cs pt qt pn pn)) hx hb hr (fun t ht hW => ⟨_, rfl, by unfold ctX; rw [if_neg w0, if_neg w1, if_neg w2, if_pos w3], ht⟩) (fun q h => nomatch h) d_X_count_51
  refine lv_tableOut (tgt := 52) hx hb d_X_count_1 (out3 w0 w1 w2 w3) (by decide) ?_
  refine lv_iconst (v := -1) hx hb d_X_count_52 (by decide) ?_
  exact W.iret (v := -1) hx hb hr (fun t ht hW => ⟨_, rfl, by unfold ctX; rw [if_neg w0, if_neg w1, if_neg w2, if_neg w3], ht⟩) (fun q h => nomatch h) d_X_count_53
end
section
/-! the class: text, pattern, clear: by wip/whole/gen/gen13.py -/
set_option maxHeartbeats 4000000 in
set_option maxRecDepth 100000 in
theorem c_X_text (l : Launch) (dC : Nat → ClassId) (dI : Nat → Nat → Nat) (h0 a1 a2 a3 a4 : Nat) (cI cZ : ClassId) (tx pt qt sr : Nat → Int32) (tn pn : Nat) (sz : Nat) (ht : tn ≤ 400) (x : Int64) (n : Int32) : Met l y_X_text (.code y_X_text b_X_text 5 (some .int) :: wB) (Rm 1 30) (va_Pc [.ref h0, .long x, .int n] (fun U => U.heap.size = sz ∧ va_P (dC, dI) classes (wX h0 a1 a2 a3 a4 cI cZ tx pt qt sr tn pn) U.heap ∧ va_K (dC, dI) classes (tyIZ cI cZ) U ∧ va_D (fun _ => True) (wX h0 a1 a2 a3 a4 cI cZ tx pt qt sr tn pn))) (va_Qi (fun (r : Int32) (u : (Nat → Int32) × Nat) => r = teR tn 400 n ∧ u = (teT tx tn 400 x n, teN tn 400 n)) (fun (u : (Nat → Int32) × Nat) (t : State) => va_P (dC, dI) classes (wX h0 a1 a2 a3 a4 cI cZ u.1 pt qt sr u.2 pn) t.heap ∧ va_K (dC, dI) classes (tyIZ cI cZ) t ∧ va_D (va_A (wX h0 a1 a2 a3 a4 cI cZ tx pt qt sr tn pn) sz) (wX h0 a1 a2 a3 a4 cI cZ u.1 pt qt sr u.2 pn)) (va_A (wX h0 a1 a2 a3 a4 cI cZ tx pt qt sr tn pn) sz)) 0 0 (va_A (wX h0 a1 a2 a3 a4 cI cZ tx pt qt sr tn pn) sz) := by
  refine Met.ofW (cc := b_X_text) (maxL := 5) (ret := (some .int)) (by decide) rfl ?_
  intro p e s mm args below meth c s₁ B hml hv
  obtain ⟨rfl, hsz, hP, hK, hD0⟩ := hv
  have hx := B.exec
  have hb := B.bytes
  have hr := B.returns
  have hts := atoms_spec (ws := (.code y_X_text b_X_text 5 (some .int) :: wB)) B.pre
  have htB : ∀ w ∈ wB, w.before _ s = true := fun w h => hts w (List.mem_cons_of_mem _ h)
  have hown : s.vm.findClass R_X = some mm.cls := findClass_of_methodNamed B.named
  have hlocks := B.notSynchronized
  subst hsz
  have hD := hD0.self (sz := s.heap.size)
  generalize hAe : va_A (wX h0 a1 a2 a3 a4 cI cZ tx pt qt sr tn pn) s.heap.size = A at hD ⊢
  have hA : ∀ q : Nat, s.heap.size ≤ q → A q := fun q h => by rw [← hAe]; exact Or.inr h
  have hS : va_S A s.heap s.heap [] := va_S.rf
  have hP : va_P (dC, dI) classes (wX h0 a1 a2 a3 a4 cI cZ tx pt qt sr tn pn) s.heap := hP
  have hl := lv_entry ([.ref h0, .long x, .int n]) (n := 5) (Nat.le_of_ble_eq_true rfl)
  rw [lg_entry_eq]
  generalize (lg_sl ([.ref h0, .long x, .int n]) ++ List.replicate (5 - (lg_sl ([.ref h0, .long x, .int n])).length) Slot.unset).toArray = ls at hl ⊢
  have hl : lv_has ls 5 [(0, .ref h0), (1, .long x), (3, .int n)] := hl
  refine lv_aload_n hx hb d_X_text_0 rfl (lv_at hl 0 rfl) ?_
  refine va_get (D := (dC, dI)) (ci := 0) (v := .int (nI tn)) (C := R_X) (T := F_X) (N := 6) hx hb htB in_X hown hK hP 0 rfl rfl 1 (by decide) (htB _ hfl_X_13) (fun _ h9 => h9) rfl d_X_text_1 ?_
  refine lv_iload_n hx hb d_X_text_4 rfl (lv_at hl 2 rfl) ?_
  refine lv_sipush (v := nI 400) hx hb d_X_text_5 (by decide) ?_
  refine r_X_hasRoom (by omega) (by omega) hx hb hml hown htB hl.1 (Nat.le_of_ble_eq_true rfl) ⟨Nat.le_of_ble_eq_true rfl, Nat.le_of_ble_eq_true rfl⟩ ⟨Nat.zero_le _, Nat.zero_le _⟩ d_X_text_8 ?_
  refine lv_if_ne (tgt := 16) hx hb d_X_text_11 (by decide) (fun c_1 => ?_) (fun c_1 => ?_)
  · have c_1 := bI_nz.mp c_1
    obtain ⟨j, hj, rfl, hle⟩ := hrm_t c_1
    refine lv_iconst (v := nI 0) hx hb d_X_text_16 (by decide) ?_
    refine lv_istore (lv' := [(4, .int (nI 0)), (0, .ref h0), (1, .long x), (3, .int (nI j))]) hx hb d_X_text_17 hl (by decide) rfl (fun ls hl => ?_)
    have hcj : (nI j).toNatClampNeg = j := nI_clamp (by omega)
    have loop : ∀ (n i : Nat) (H : Heap) (locs : List Loc), i ≤ 1000 → 1000 < i + n → i ≤ j → va_P (dC, dI) classes (wX h0 a1 a2 a3 a4 cI cZ ((ap tx tn x j i)) pt qt sr tn pn) H → va_D A (wX h0 a1 a2 a3 a4 cI cZ ((ap tx tn x j i)) pt qt sr tn pn) → va_S A s.heap H locs → ∀ ls : Array Slot, lv_has ls 5 [(4, .int (nI i)), (0, .ref h0), (1, .long x), (3, .int (nI j))] → W p l e (Rm 1 30) s mm [.ref h0, .long x, .int (nI j)].toArray below meth c H locs 0 0 (MQ below (va_Qi (fun (r : Int32) (u : (Nat → Int32) × Nat) => r = teR tn 400 (nI j) ∧ u = (teT tx tn 400 x (nI j), teN tn 400 (nI j))) (fun (u : (Nat → Int32) × Nat) (t : State) => va_P (dC, dI) classes (wX h0 a1 a2 a3 a4 cI cZ u.1 pt qt sr u.2 pn) t.heap ∧ va_K (dC, dI) classes (tyIZ cI cZ) t ∧ va_D A (wX h0 a1 a2 a3 a4 cI cZ u.1 pt qt sr u.2 pn)) A) [.ref h0, .long x, .int (nI j)].toArray s 0 0 A) (F0 mm 19 ls []) := by
      intro n
      induction n with
      | zero => intro i H locs h1 h2; exact absurd h2 (by omega)
      | succ n ih =>
        intro i H locs hi hn hij hP hD hS ls hl
        refine lv_iload hx hb d_X_text_19 (lv_at hl 0 rfl) ?_
        refine lv_iload_n hx hb d_X_text_21 rfl (lv_at hl 3 rfl) ?_
        refine lv_icmp_ge (tgt := 50) hx hb d_X_text_22 (by decide) (fun c_1 => ?_) (fun c_1 => ?_)
        · have c_1 := (nI_leI (by omega) (by omega)).mp c_1
          refine lv_aload_n hx hb d_X_text_50 rfl (lv_at hl 1 rfl) ?_
          refine lv_dup hx hb d_X_text_51 rfl ?_
          refine va_get (D := (dC, dI)) (ci := 0) (v := .int (nI tn)) (C := R_X) (T := F_X) (N := 6) hx hb htB in_X hown hK hP 0 rfl rfl 1 (by decide) (htB _ hfl_X_13) (fun _ h9 => h9) rfl d_X_text_52 ?_
          refine lv_iload_n hx hb d_X_text_55 rfl (lv_at hl 3 rfl) ?_
          refine lv_iadd hx hb d_X_text_56 ?_
          refine lv_topi (fun v_2 ev_2 => ?_)
          obtain rfl : v_2 = nI (tn + j) := ev_2.trans (nI_add _ _)
          refine va_put (D := (dC, dI)) (ci := 0) (v := .int (nI (tn + j))) (ty := .int) (C := R_X) (T := F_X) (N := 6) hx hb htB in_X t_X t_X_ok n_X hown hK hP hD hS 0 rfl rfl 1 (by decide) (htB _ hfl_X_13) (fun _ h9 => h9) rfl (by decide +kernel) rfl rfl (Nat.le_of_ble_eq_true rfl) d_X_text_57 (fun H locs hP hD hS => ?_)
          have hP : va_P (dC, dI) classes (wX h0 a1 a2 a3 a4 cI cZ (ap tx tn x j i) pt qt sr (tn + j) pn) H := hP
          have hD : va_D A (wX h0 a1 a2 a3 a4 cI cZ (ap tx tn x j i) pt qt sr (tn + j) pn) := hD
          refine lv_aload_n hx hb d_X_text_60 rfl (lv_at hl 1 rfl) ?_
          refine va_get (D := (dC, dI)) (ci := 0) (v := .int (nI (tn + j))) (C := R_X) (T := F_X) (N := 6) hx hb htB in_X hown hK hP 0 rfl rfl 1 (by decide) (htB _ hfl_X_13) (fun _ h9 => h9) rfl d_X_text_61 ?_
          exact W.iret (v := nI (tn + j)) hx hb hr (fun t ht hW => ⟨⟨_, (ap tx tn x j i, tn + j), rfl, ⟨by unfold teR; rw [if_pos ‹_›, hcj], by unfold teT teN; rw [if_pos ‹_›, if_pos ‹_›, hcj, show i = j by omega]⟩, by rw [ht]; exact hP, va_K.moved hW.alike hK, hD⟩, hS.F ht⟩) hS.2.2 d_X_text_64
        · have c_1 := mt (nI_leI (by omega) (by omega)).mpr c_1
          refine lv_aload_n hx hb d_X_text_25 rfl (lv_at hl 1 rfl) ?_
          refine va_get (D := (dC, dI)) (ci := 0) (v := .ref a1) (C := R_X) (T := F_X) (N := 6) hx hb htB in_X hown hK hP 0 rfl rfl 0 (by decide) (htB _ hfl_X_9) (fun _ h9 => h9) rfl d_X_text_26 ?_
          refine lv_aload_n hx hb d_X_text_29 rfl (lv_at hl 1 rfl) ?_
          refine va_get (D := (dC, dI)) (ci := 0) (v := .int (nI tn)) (C := R_X) (T := F_X) (N := 6) hx hb htB in_X hown hK hP 0 rfl rfl 1 (by decide) (htB _ hfl_X_13) (fun _ h9 => h9) rfl d_X_text_30 ?_
          refine lv_iload hx hb d_X_text_33 (lv_at hl 0 rfl) ?_
          refine lv_iadd hx hb d_X_text_35 ?_
          refine lv_topi (fun v_3 ev_3 => ?_)
          obtain rfl : v_3 = nI (tn + i) := ev_3.trans (nI_add _ _)
          refine lv_lload_n hx hb d_X_text_36 rfl (lv_at hl 2 rfl) ?_
          refine lv_iload_n hx hb d_X_text_37 rfl (lv_at hl 3 rfl) ?_
          refine lv_iload hx hb d_X_text_38 (lv_at hl 0 rfl) ?_
          refine r_X_byteOf (by omega) hx hb hml hown htB hl.1 (Nat.le_of_ble_eq_true rfl) ⟨Nat.le_of_ble_eq_true rfl, Nat.le_of_ble_eq_true rfl⟩ ⟨Nat.zero_le _, Nat.zero_le _⟩ d_X_text_40 ?_
          refine va_iast hx hb hK hP hD hS 1 0 rfl rfl (vp_in_nI (n := tn + i) (by omega) (by decide)) d_X_text_43 (fun H locs hP hD hS => ?_)
          rw [nI_clamp (n := tn + i) (by omega)] at hP hD
          have hP : va_P (dC, dI) classes (wX h0 a1 a2 a3 a4 cI cZ (upd (ap tx tn x j i) (tn + i) (bu x (8 * (j - 1 - i)))) pt qt sr tn pn) H := hP
          have hD : va_D A (wX h0 a1 a2 a3 a4 cI cZ (upd (ap tx tn x j i) (tn + i) (bu x (8 * (j - 1 - i)))) pt qt sr tn pn) := hD
          refine lv_iinc (v := nI (i + 1)) (lv' := [(4, .int (nI (i + 1))), (0, .ref h0), (1, .long x), (3, .int (nI j))]) hx hb d_X_text_44 hl (k := 0) rfl (nI_add _ 1) (by decide) rfl (fun ls hl => ?_)
          refine lv_goto (tgt := 19) hx hb d_X_text_47 (by decide) ?_
          rw [ap_s] at hP hD
          exact ih (i + 1) _ _ (by omega) (by omega) (by omega) hP hD hS ls (lv_sub hl [0, 1, 2, 3] rfl)
    rw [← ap_0 (tx := tx) (tn := tn) (x := x) (j := j)] at hP hD
    exact loop 1001 0 _ _ (by omega) (by omega) (by omega) hP hD hS ls (lv_sub hl [0, 1, 2, 3] rfl)
  · have c_1 := bI_z.mp c_1
    refine lv_iconst (v := -1) hx hb d_X_text_14 (by decide) ?_
    exact W.iret (v := -1) hx hb hr (fun t ht hW => ⟨⟨_, (tx, tn), rfl, ⟨by unfold teR; rw [if_neg (by rw [‹hrm tn 400 n = false›]; decide)], by unfold teT teN; rw [if_neg (by rw [‹hrm tn 400 n = false›]; decide), if_neg (by rw [‹hrm tn 400 n = false›]; decide)]⟩, by rw [ht]; exact hP, va_K.moved hW.alike hK, hD⟩, hS.F ht⟩) hS.2.2 d_X_text_15

set_option maxHeartbeats 4000000 in
set_option maxRecDepth 100000 in
theorem c_X_pattern (l : Launch) (dC : Nat → ClassId) (dI : Nat → Nat → Nat) (h0 a1 a2 a3 a4 : Nat) (cI cZ : ClassId) (tx pt qt sr : Nat → Int32) (tn pn : Nat) (sz : Nat) (hp : pn ≤ 200) (x : Int64) (n qq : Int32) : Met l y_X_pattern (.code y_X_pattern b_X_pattern 6 (some .int) :: wB) (Rm 1 30) (va_Pc [.ref h0, .long x, .int n, .int qq] (fun U => U.heap.size = sz ∧ va_P (dC, dI) classes (wX h0 a1 a2 a3 a4 cI cZ tx pt qt sr tn pn) U.heap ∧ va_K (dC, dI) classes (tyIZ cI cZ) U ∧ va_D (fun _ => True) (wX h0 a1 a2 a3 a4 cI cZ tx pt qt sr tn pn))) (va_Qi (fun (r : Int32) (u : (Nat → Int32) × (Nat → Int32) × Nat) => r = teR pn 200 n ∧ u = (teT pt pn 200 x n, teQ qt pn 200 qq n, teN pn 200 n)) (fun (u : (Nat → Int32) × (Nat → Int32) × Nat) (t : State) => va_P (dC, dI) classes (wX h0 a1 a2 a3 a4 cI cZ tx u.1 u.2.1 sr tn u.2.2) t.heap ∧ va_K (dC, dI) classes (tyIZ cI cZ) t ∧ va_D (va_A (wX h0 a1 a2 a3 a4 cI cZ tx pt qt sr tn pn) sz) (wX h0 a1 a2 a3 a4 cI cZ tx u.1 u.2.1 sr tn u.2.2)) (va_A (wX h0 a1 a2 a3 a4 cI cZ tx pt qt sr tn pn) sz)) 0 0 (va_A (wX h0 a1 a2 a3 a4 cI cZ tx pt qt sr tn pn) sz) := by
  refine Met.ofW (cc := b_X_pattern) (maxL := 6) (ret := (some .int)) (by decide) rfl ?_
  intro p e s mm args below meth c s₁ B hml hv
  obtain ⟨rfl, hsz, hP, hK, hD0⟩ := hv
  have hx := B.exec
  have hb := B.bytes
  have hr := B.returns
  have hts := atoms_spec (ws := (.code y_X_pattern b_X_pattern 6 (some .int) :: wB)) B.pre
  have htB : ∀ w ∈ wB, w.before _ s = true := fun w h => hts w (List.mem_cons_of_mem _ h)
  have hown : s.vm.findClass R_X = some mm.cls := findClass_of_methodNamed B.named
  have hlocks := B.notSynchronized
  subst hsz
  have hD := hD0.self (sz := s.heap.size)
  generalize hAe : va_A (wX h0 a1 a2 a3 a4 cI cZ tx pt qt sr tn pn) s.heap.size = A at hD ⊢
  have hA : ∀ q : Nat, s.heap.size ≤ q → A q := fun q h => by rw [← hAe]; exact Or.inr h
  have hS : va_S A s.heap s.heap [] := va_S.rf
  have hP : va_P (dC, dI) classes (wX h0 a1 a2 a3 a4 cI cZ tx pt qt sr tn pn) s.heap := hP
  have hl := lv_entry ([.ref h0, .long x, .int n, .int qq]) (n := 6) (Nat.le_of_ble_eq_true rfl)
  rw [lg_entry_eq]
  generalize (lg_sl ([.ref h0, .long x, .int n, .int qq]) ++ List.replicate (6 - (lg_sl ([.ref h0, .long x, .int n, .int qq])).length) Slot.unset).toArray = ls at hl ⊢
  have hl : lv_has ls 6 [(0, .ref h0), (1, .long x), (3, .int n), (4, .int qq)] := hl
  refine lv_aload_n hx hb d_X_pattern_0 rfl (lv_at hl 0 rfl) ?_
  refine va_get (D := (dC, dI)) (ci := 0) (v := .int (nI pn)) (C := R_X) (T := F_X) (N := 6) hx hb htB in_X hown hK hP 0 rfl rfl 4 (by decide) (htB _ hfl_X_24) (fun _ h9 => h9) rfl d_X_pattern_1 ?_
  refine lv_iload_n hx hb d_X_pattern_4 rfl (lv_at hl 2 rfl) ?_
  refine lv_sipush (v := nI 200) hx hb d_X_pattern_5 (by decide) ?_
  refine r_X_hasRoom (by omega) (by omega) hx hb hml hown htB hl.1 (Nat.le_of_ble_eq_true rfl) ⟨Nat.le_of_ble_eq_true rfl, Nat.le_of_ble_eq_true rfl⟩ ⟨Nat.zero_le _, Nat.zero_le _⟩ d_X_pattern_8 ?_
  refine lv_if_ne (tgt := 16) hx hb d_X_pattern_11 (by decide) (fun c_1 => ?_) (fun c_1 => ?_)
  · have c_1 := bI_nz.mp c_1
    obtain ⟨j, hj, rfl, hle⟩ := hrm_t c_1
    refine lv_iconst (v := nI 0) hx hb d_X_pattern_16 (by decide) ?_
    refine lv_istore (lv' := [(5, .int (nI 0)), (0, .ref h0), (1, .long x), (3, .int (nI j)), (4, .int qq)]) hx hb d_X_pattern_17 hl (by decide) rfl (fun ls hl => ?_)
    have hcj : (nI j).toNatClampNeg = j := nI_clamp (by omega)
    have loop : ∀ (n i : Nat) (H : Heap) (locs : List Loc), i ≤ 1000 → 1000 < i + n → i ≤ j → va_P (dC, dI) classes (wX h0 a1 a2 a3 a4 cI cZ tx ((ap pt pn x j i)) ((aq qt pn qq i)) sr tn pn) H → va_D A (wX h0 a1 a2 a3 a4 cI cZ tx ((ap pt pn x j i)) ((aq qt pn qq i)) sr tn pn) → va_S A s.heap H locs → ∀ ls : Array Slot, lv_has ls 6 [(5, .int (nI i)), (0, .ref h0), (1, .long x), (3, .int (nI j)), (4, .int qq)] → W p l e (Rm 1 30) s mm [.ref h0, .long x, .int (nI j), .int qq].toArray below meth c H locs 0 0 (MQ below (va_Qi (fun (r : Int32) (u : (Nat → Int32) × (Nat → Int32) × Nat) => r = teR pn 200 (nI j) ∧ u = (teT pt pn 200 x (nI j), teQ qt pn 200 qq (nI j), teN pn 200 (nI j))) (fun (u : (Nat → Int32) × (Nat → Int32) × Nat) (t : State) => va_P (dC, dI) classes (wX h0 a1 a2 a3 a4 cI cZ tx u.1 u.2.1 sr tn u.2.2) t.heap ∧ va_K (dC, dI) classes (tyIZ cI cZ) t ∧ va_D A (wX h0 a1 a2 a3 a4 cI cZ tx u.1 u.2.1 sr tn u.2.2)) A) [.ref h0, .long x, .int (nI j), .int qq].toArray s 0 0 A) (F0 mm 19 ls []) := by
      intro n
      induction n with
      | zero => intro i H locs h1 h2; exact absurd h2 (by omega)
      | succ n ih =>
        intro i H locs hi hn hij hP hD hS ls hl
        refine lv_iload hx hb d_X_pattern_19 (lv_at hl 0 rfl) ?_
        refine lv_iload_n hx hb d_X_pattern_21 rfl (lv_at hl 3 rfl) ?_
        refine lv_icmp_ge (tgt := 78) hx hb d_X_pattern_22 (by decide) (fun c_1 => ?_) (fun c_1 => ?_)
        · have c_1 := (nI_leI (by omega) (by omega)).mp c_1
          refine lv_aload_n hx hb d_X_pattern_78 rfl (lv_at hl 1 rfl) ?_
          refine lv_dup hx hb d_X_pattern_79 rfl ?_
          refine va_get (D := (dC, dI)) (ci := 0) (v := .int (nI pn)) (C := R_X) (T := F_X) (N := 6) hx hb htB in_X hown hK hP 0 rfl rfl 4 (by decide) (htB _ hfl_X_24) (fun _ h9 => h9) rfl d_X_pattern_80 ?_
          refine lv_iload_n hx hb d_X_pattern_83 rfl (lv_at hl 3 rfl) ?_
          refine lv_iadd hx hb d_X_pattern_84 ?_
          refine lv_topi (fun v_2 ev_2 => ?_)
          obtain rfl : v_2 = nI (pn + j) := ev_2.trans (nI_add _ _)
          refine va_put (D := (dC, dI)) (ci := 0) (v := .int (nI (pn + j))) (ty := .int) (C := R_X) (T := F_X) (N := 6) hx hb htB in_X t_X t_X_ok n_X hown hK hP hD hS 0 rfl rfl 4 (by decide) (htB _ hfl_X_24) (fun _ h9 => h9) rfl (by decide +kernel) rfl rfl (Nat.le_of_ble_eq_true rfl) d_X_pattern_85 (fun H locs hP hD hS => ?_)
          have hP : va_P (dC, dI) classes (wX h0 a1 a2 a3 a4 cI cZ tx (ap pt pn x j i) (aq qt pn qq i) sr tn (pn + j)) H := hP
          have hD : va_D A (wX h0 a1 a2 a3 a4 cI cZ tx (ap pt pn x j i) (aq qt pn qq i) sr tn (pn + j)) := hD
          refine lv_aload_n hx hb d_X_pattern_88 rfl (lv_at hl 1 rfl) ?_
          refine va_get (D := (dC, dI)) (ci := 0) (v := .int (nI (pn + j))) (C := R_X) (T := F_X) (N := 6) hx hb htB in_X hown hK hP 0 rfl rfl 4 (by decide) (htB _ hfl_X_24) (fun _ h9 => h9) rfl d_X_pattern_89 ?_
          exact W.iret (v := nI (pn + j)) hx hb hr (fun t ht hW => ⟨⟨_, (ap pt pn x j i, aq qt pn qq i, pn + j), rfl, ⟨by unfold teR; rw [if_pos ‹_›, hcj], by unfold teT teN teQ; rw [if_pos ‹_›, if_pos ‹_›, if_pos ‹_›, hcj, show i = j by omega]⟩, by rw [ht]; exact hP, va_K.moved hW.alike hK, hD⟩, hS.F ht⟩) hS.2.2 d_X_pattern_92
        · have c_1 := mt (nI_leI (by omega) (by omega)).mpr c_1
          refine lv_aload_n hx hb d_X_pattern_25 rfl (lv_at hl 1 rfl) ?_
          refine va_get (D := (dC, dI)) (ci := 0) (v := .ref a2) (C := R_X) (T := F_X) (N := 6) hx hb htB in_X hown hK hP 0 rfl rfl 2 (by decide) (htB _ hfl_X_17) (fun _ h9 => h9) rfl d_X_pattern_26 ?_
          refine lv_aload_n hx hb d_X_pattern_29 rfl (lv_at hl 1 rfl) ?_
          refine va_get (D := (dC, dI)) (ci := 0) (v := .int (nI pn)) (C := R_X) (T := F_X) (N := 6) hx hb htB in_X hown hK hP 0 rfl rfl 4 (by decide) (htB _ hfl_X_24) (fun _ h9 => h9) rfl d_X_pattern_30 ?_
          refine lv_iload hx hb d_X_pattern_33 (lv_at hl 0 rfl) ?_
          refine lv_iadd hx hb d_X_pattern_35 ?_
          refine lv_topi (fun v_3 ev_3 => ?_)
          obtain rfl : v_3 = nI (pn + i) := ev_3.trans (nI_add _ _)
          refine lv_lload_n hx hb d_X_pattern_36 rfl (lv_at hl 2 rfl) ?_
          refine lv_iload_n hx hb d_X_pattern_37 rfl (lv_at hl 3 rfl) ?_
          refine lv_iload hx hb d_X_pattern_38 (lv_at hl 0 rfl) ?_
          refine r_X_byteOf (by omega) hx hb hml hown htB hl.1 (Nat.le_of_ble_eq_true rfl) ⟨Nat.le_of_ble_eq_true rfl, Nat.le_of_ble_eq_true rfl⟩ ⟨Nat.zero_le _, Nat.zero_le _⟩ d_X_pattern_40 ?_
          refine va_iast hx hb hK hP hD hS 2 0 rfl rfl (vp_in_nI (n := pn + i) (by omega) (by decide)) d_X_pattern_43 (fun H locs hP hD hS => ?_)
          rw [nI_clamp (n := pn + i) (by omega)] at hP hD
          have hP : va_P (dC, dI) classes (wX h0 a1 a2 a3 a4 cI cZ tx (upd (ap pt pn x j i) (pn + i) (bu x (8 * (j - 1 - i)))) (aq qt pn qq i) sr tn pn) H := hP
          have hD : va_D A (wX h0 a1 a2 a3 a4 cI cZ tx (upd (ap pt pn x j i) (pn + i) (bu x (8 * (j - 1 - i)))) (aq qt pn qq i) sr tn pn) := hD
          refine lv_aload_n hx hb d_X_pattern_44 rfl (lv_at hl 1 rfl) ?_
          refine va_get (D := (dC, dI)) (ci := 0) (v := .ref a3) (C := R_X) (T := F_X) (N := 6) hx hb htB in_X hown hK hP 0 rfl rfl 3 (by decide) (htB _ hfl_X_20) (fun _ h9 => h9) rfl d_X_pattern_45 ?_
          refine lv_aload_n hx hb d_X_pattern_48 rfl (lv_at hl 1 rfl) ?_
          refine va_get (D := (dC, dI)) (ci := 0) (v := .int (nI pn)) (C := R_X) (T := F_X) (N := 6) hx hb htB in_X hown hK hP 0 rfl rfl 4 (by decide) (htB _ hfl_X_24) (fun _ h9 => h9) rfl d_X_pattern_49 ?_
          refine lv_iload hx hb d_X_pattern_52 (lv_at hl 0 rfl) ?_
          refine lv_iadd hx hb d_X_pattern_54 ?_
          refine lv_topi (fun v_4 ev_4 => ?_)
          obtain rfl : v_4 = nI (pn + i) := ev_4.trans (nI_add _ _)
          refine lv_iload hx hb d_X_pattern_55 (lv_at hl 4 rfl) ?_
          refine lv_iload hx hb d_X_pattern_57 (lv_at hl 0 rfl) ?_
          refine lv_iushr hx hb d_X_pattern_59 rfl ?_
          refine lv_topi (fun v_5 ev_5 => ?_)
          refine lv_iconst (v := nI 1) hx hb d_X_pattern_60 (by decide) ?_
          refine lv_iand hx hb d_X_pattern_61 ?_
          refine lv_topi (fun v_6 ev_6 => ?_)
          refine lv_iconst (v := nI 1) hx hb d_X_pattern_62 (by decide) ?_
          refine lv_icmp_ne (tgt := 70) hx hb d_X_pattern_63 (by decide) (fun c_7 => ?_) (fun c_7 => ?_)
          · refine lv_iconst (v := nI 0) hx hb d_X_pattern_70 (by decide) ?_
            refine va_zast hx hb hK hP hD hS 3 1 rfl rfl (vp_in_nI (n := pn + i) (by omega) (by decide)) d_X_pattern_71 (fun H locs hP hD hS => ?_)
            rw [nI_clamp (n := pn + i) (by omega), show vp_nar .boolean (nI 0) = nI 0 from rfl] at hP hD
            have hP : va_P (dC, dI) classes (wX h0 a1 a2 a3 a4 cI cZ tx (upd (ap pt pn x j i) (pn + i) (bu x (8 * (j - 1 - i)))) (upd (aq qt pn qq i) (pn + i) (nI 0)) sr tn pn) H := hP
            have hD : va_D A (wX h0 a1 a2 a3 a4 cI cZ tx (upd (ap pt pn x j i) (pn + i) (bu x (8 * (j - 1 - i)))) (upd (aq qt pn qq i) (pn + i) (nI 0)) sr tn pn) := hD
            refine lv_iinc (v := nI (i + 1)) (lv' := [(5, .int (nI (i + 1))), (0, .ref h0), (1, .long x), (3, .int (nI j)), (4, .int qq)]) hx hb d_X_pattern_72 hl (k := 0) rfl (nI_add _ 1) (by decide) rfl (fun ls hl => ?_)
            refine lv_goto (tgt := 19) hx hb d_X_pattern_75 (by decide) ?_
            have hb9 : nI 0 = bI (qb qq i) := by
              unfold qb
              subst_vars
              first | (rw [decide_eq_false ‹_›]; rfl) | (rw [decide_eq_true (Eq.symm ‹_›)]; rfl)
            rw [ap_s, hb9, aq_s] at hP hD
            exact ih (i + 1) _ _ (by omega) (by omega) (by omega) hP hD hS ls (lv_sub hl [0, 1, 2, 3, 4] rfl)
          · refine lv_iconst (v := nI 1) hx hb d_X_pattern_66 (by decide) ?_
            refine lv_goto (tgt := 71) hx hb d_X_pattern_67 (by decide) ?_
            refine va_zast hx hb hK hP hD hS 3 1 rfl rfl (vp_in_nI (n := pn + i) (by omega) (by decide)) d_X_pattern_71 (fun H locs hP hD hS => ?_)
            rw [nI_clamp (n := pn + i) (by omega), show vp_nar .boolean (nI 1) = nI 1 from rfl] at hP hD
            have hP : va_P (dC, dI) classes (wX h0 a1 a2 a3 a4 cI cZ tx (upd (ap pt pn x j i) (pn + i) (bu x (8 * (j - 1 - i)))) (upd (aq qt pn qq i) (pn + i) (nI 1)) sr tn pn) H := hP
            have hD : va_D A (wX h0 a1 a2 a3 a4 cI cZ tx (upd (ap pt pn x j i) (pn + i) (bu x (8 * (j - 1 - i)))) (upd (aq qt pn qq i) (pn + i) (nI 1)) sr tn pn) := hD
            refine lv_iinc (v := nI (i + 1)) (lv' := [(5, .int (nI (i + 1))), (0, .ref h0), (1, .long x), (3, .int (nI j)), (4, .int qq)]) hx hb d_X_pattern_72 hl (k := 0) rfl (nI_add _ 1) (by decide) rfl (fun ls hl => ?_)
            refine lv_goto (tgt := 19) hx hb d_X_pattern_75 (by decide) ?_
            have hb9 : nI 1 = bI (qb qq i) := by
              unfold qb
              subst_vars
              first | (rw [decide_eq_true ‹_›]; rfl) | (rw [decide_eq_true (Eq.symm ‹_›)]; rfl)
            rw [ap_s, hb9, aq_s] at hP hD
            exact ih (i + 1) _ _ (by omega) (by omega) (by omega) hP hD hS ls (lv_sub hl [0, 1, 2, 3, 4] rfl)
    rw [← ap_0 (tx := pt) (tn := pn) (x := x) (j := j), ← aq_0 (qt := qt) (pn := pn) (q := qq)] at hP hD
    exact loop 1001 0 _ _ (by omega) (by omega) (by omega) hP hD hS ls (lv_sub hl [0, 1, 2, 3, 4] rfl)
  · have c_1 := bI_z.mp c_1
    refine lv_iconst (v := -1) hx hb d_X_pattern_14 (by decide) ?_
    exact W.iret (v := -1) hx hb hr (fun t ht hW => ⟨⟨_, (pt, qt, pn), rfl, ⟨by unfold teR; rw [if_neg (by rw [‹hrm pn 200 n = false›]; decide)], by unfold teT teN teQ; rw [if_neg (by rw [‹hrm pn 200 n = false›]; decide), if_neg (by rw [‹hrm pn 200 n = false›]; decide), if_neg (by rw [‹hrm pn 200 n = false›]; decide)]⟩, by rw [ht]; exact hP, va_K.moved hW.alike hK, hD⟩, hS.F ht⟩) hS.2.2 d_X_pattern_15

set_option maxHeartbeats 4000000 in
set_option maxRecDepth 100000 in
theorem c_X_clear (l : Launch) (dC : Nat → ClassId) (dI : Nat → Nat → Nat) (h0 a1 a2 a3 a4 : Nat) (cI cZ : ClassId) (tx pt qt sr : Nat → Int32) (tn pn : Nat) (sz : Nat)  : Met l y_X_clear (.code y_X_clear b_X_clear 2 (some .int) :: wB) (Rm 0 0) (va_Pc [.ref h0] (fun U => U.heap.size = sz ∧ va_P (dC, dI) classes (wX h0 a1 a2 a3 a4 cI cZ tx pt qt sr tn pn) U.heap ∧ va_K (dC, dI) classes (tyIZ cI cZ) U ∧ va_D (fun _ => True) (wX h0 a1 a2 a3 a4 cI cZ tx pt qt sr tn pn))) (va_Qi (fun (r : Int32) (u : Unit) => r = nI tn) (fun (u : Unit) (t : State) => va_P (dC, dI) classes (wX h0 a1 a2 a3 a4 cI cZ tx pt qt sr 0 0) t.heap ∧ va_K (dC, dI) classes (tyIZ cI cZ) t ∧ va_D (va_A (wX h0 a1 a2 a3 a4 cI cZ tx pt qt sr tn pn) sz) (wX h0 a1 a2 a3 a4 cI cZ tx pt qt sr 0 0)) (va_A (wX h0 a1 a2 a3 a4 cI cZ tx pt qt sr tn pn) sz)) 0 0 (va_A (wX h0 a1 a2 a3 a4 cI cZ tx pt qt sr tn pn) sz) := by
  refine Met.ofW (cc := b_X_clear) (maxL := 2) (ret := (some .int)) (by decide) rfl ?_
  intro p e s mm args below meth c s₁ B hml hv
  obtain ⟨rfl, hsz, hP, hK, hD0⟩ := hv
  have hx := B.exec
  have hb := B.bytes
  have hr := B.returns
  have hts := atoms_spec (ws := (.code y_X_clear b_X_clear 2 (some .int) :: wB)) B.pre
  have htB : ∀ w ∈ wB, w.before _ s = true := fun w h => hts w (List.mem_cons_of_mem _ h)
  have hown : s.vm.findClass R_X = some mm.cls := findClass_of_methodNamed B.named
  have hlocks := B.notSynchronized
  subst hsz
  have hD := hD0.self (sz := s.heap.size)
  generalize hAe : va_A (wX h0 a1 a2 a3 a4 cI cZ tx pt qt sr tn pn) s.heap.size = A at hD ⊢
  have hA : ∀ q : Nat, s.heap.size ≤ q → A q := fun q h => by rw [← hAe]; exact Or.inr h
  have hS : va_S A s.heap s.heap [] := va_S.rf
  have hP : va_P (dC, dI) classes (wX h0 a1 a2 a3 a4 cI cZ tx pt qt sr tn pn) s.heap := hP
  have hl := lv_entry ([.ref h0]) (n := 2) (Nat.le_of_ble_eq_true rfl)
  rw [lg_entry_eq]
  generalize (lg_sl ([.ref h0]) ++ List.replicate (2 - (lg_sl ([.ref h0])).length) Slot.unset).toArray = ls at hl ⊢
  have hl : lv_has ls 2 [(0, .ref h0)] := hl
  refine lv_aload_n hx hb d_X_clear_0 rfl (lv_at hl 0 rfl) ?_
  refine va_get (D := (dC, dI)) (ci := 0) (v := .int (nI tn)) (C := R_X) (T := F_X) (N := 6) hx hb htB in_X hown hK hP 0 rfl rfl 1 (by decide) (htB _ hfl_X_13) (fun _ h9 => h9) rfl d_X_clear_1 ?_
  refine lv_istore_n (lv' := [(1, .int (nI tn)), (0, .ref h0)]) hx hb d_X_clear_4 rfl hl (by decide) rfl (fun ls hl => ?_)
  refine lv_aload_n hx hb d_X_clear_5 rfl (lv_at hl 1 rfl) ?_
  refine lv_iconst (v := nI 0) hx hb d_X_clear_6 (by decide) ?_
  refine va_put (D := (dC, dI)) (ci := 0) (v := .int (nI 0)) (ty := .int) (C := R_X) (T := F_X) (N := 6) hx hb htB in_X t_X t_X_ok n_X hown hK hP hD hS 0 rfl rfl 1 (by decide) (htB _ hfl_X_13) (fun _ h9 => h9) rfl (by decide +kernel) rfl rfl (Nat.le_of_ble_eq_true rfl) d_X_clear_7 (fun H locs hP hD hS => ?_)
  have hP : va_P (dC, dI) classes (wX h0 a1 a2 a3 a4 cI cZ tx pt qt sr 0 pn) H := hP
  have hD : va_D A (wX h0 a1 a2 a3 a4 cI cZ tx pt qt sr 0 pn) := hD
  refine lv_aload_n hx hb d_X_clear_10 rfl (lv_at hl 1 rfl) ?_
  refine lv_iconst (v := nI 0) hx hb d_X_clear_11 (by decide) ?_
  refine va_put (D := (dC, dI)) (ci := 0) (v := .int (nI 0)) (ty := .int) (C := R_X) (T := F_X) (N := 6) hx hb htB in_X t_X t_X_ok n_X hown hK hP hD hS 0 rfl rfl 4 (by decide) (htB _ hfl_X_24) (fun _ h9 => h9) rfl (by decide +kernel) rfl rfl (Nat.le_of_ble_eq_true rfl) d_X_clear_12 (fun H locs hP hD hS => ?_)
  have hP : va_P (dC, dI) classes (wX h0 a1 a2 a3 a4 cI cZ tx pt qt sr 0 0) H := hP
  have hD : va_D A (wX h0 a1 a2 a3 a4 cI cZ tx pt qt sr 0 0) := hD
  refine lv_iload_n hx hb d_X_clear_15 rfl (lv_at hl 0 rfl) ?_
  exact W.iret (v := nI tn) hx hb hr (fun t ht hW => ⟨⟨_, (), rfl, rfl, by rw [ht]; exact hP, va_K.moved hW.alike hK, hD⟩, hS.F ht⟩) hS.2.2 d_X_clear_16
end
section
/-! the reference's rows: truths -/
theorem nh4 {x y : Int32} (h : x = y) : (decide (y ≤ x) && decide (x ≤ y)) = true := by
  subst h; rw [decide_eq_true (Int32.le_refl _)]; rfl
theorem nh5 {x y : Int32} (h : ¬ x = y) : (decide (y ≤ x) && decide (x ≤ y)) = false := by
  cases q : (decide (y ≤ x) && decide (x ≤ y)) with
  | false => rfl
  | true =>
    rw [Bool.and_eq_true, decide_eq_true_eq, decide_eq_true_eq] at q
    exact absurd (Int32.le_antisymm q.2 q.1) h
/-- does F hold at one of the d places from frm on? -/
def sbB (F : Nat → Bool) (frm : Nat) : Nat → Bool
  | 0 => false
  | d + 1 => sbB F frm d || F (frm + d)
/-- the next row, as far as place frm + d has been looked at -/
def NB (tx pt qt : Nat → Int32) (pn frm too a : Nat) (F : Nat → Bool) (d j : Nat) : Bool :=
  if iu pt qt pn a (nI 42) = true then decide (frm ≤ j ∧ j < frm + d) && sbB F frm (j - frm + 1) else decide (frm < j ∧ j ≤ frm + d ∧ j ≤ too) && (F (j - 1) && ft pt qt pn a (cl pt qt pn a) (tx (j - 1)))
theorem NB_0 {tx pt qt : Nat → Int32} {pn frm too a : Nat} {F : Nat → Bool} {j : Nat} : NB tx pt qt pn frm too a F 0 j = false := by
  unfold NB
  split
  · rw [decide_eq_false (by omega)]; rfl
  · rw [decide_eq_false (by omega)]; rfl
theorem NB_star {tx pt qt : Nat → Int32} {pn frm too a : Nat} {F : Nat → Bool} {d : Nat} {nv : Nat → Int32} {v : Bool} (h : iu pt qt pn a (nI 42) = true) (hv : v = sbB F frm (d + 1)) (hn : ∀ j, j ≤ 400 → nv j = bI (NB tx pt qt pn frm too a F d j)) :
    ∀ j, j ≤ 400 → upd nv (frm + d) (bI v) j = bI (NB tx pt qt pn frm too a F (d + 1) j) := by
  intro j hj
  by_cases q : j = frm + d
  · subst q
    rw [pk_us]; unfold NB; rw [if_pos h, decide_eq_true (by omega), hv, Nat.add_sub_cancel_left]; rfl
  · rw [pk_un q, hn j hj]; unfold NB; rw [if_pos h, if_pos h]
    by_cases q2 : frm ≤ j ∧ j < frm + d
    · rw [decide_eq_true q2, decide_eq_true (by omega)]
    · rw [decide_eq_false q2, decide_eq_false (by omega)]
theorem NB_hit {tx pt qt : Nat → Int32} {pn frm too a : Nat} {F : Nat → Bool} {d : Nat} {nv : Nat → Int32} (h : iu pt qt pn a (nI 42) = false) (hF : F (frm + d) = true) (hd : frm + d < too) (hf : ft pt qt pn a (cl pt qt pn a) (tx (frm + d)) = true) (hn : ∀ j, j ≤ 400 → nv j = bI (NB tx pt qt pn frm too a F d j)) :
    ∀ j, j ≤ 400 → upd nv (frm + d + 1) (nI 1) j = bI (NB tx pt qt pn frm too a F (d + 1) j) := by
  intro j hj
  have h' : ¬ iu pt qt pn a (nI 42) = true := by rw [h]; decide
  by_cases q : j = frm + d + 1
  · subst q
    rw [pk_us]; unfold NB; rw [if_neg h', decide_eq_true (by omega), show frm + d + 1 - 1 = frm + d from rfl, hF, hf]; rfl
  · rw [pk_un q, hn j hj]; unfold NB; rw [if_neg h', if_neg h']
    by_cases q2 : frm < j ∧ j ≤ frm + d ∧ j ≤ too
    · rw [decide_eq_true q2, decide_eq_true (by omega)]
    · rw [decide_eq_false q2, decide_eq_false (by omega)]
theorem NB_miss {tx pt qt : Nat → Int32} {pn frm too a : Nat} {F : Nat → Bool} {d : Nat} {nv : Nat → Int32} (h : iu pt qt pn a (nI 42) = false) (hm : F (frm + d) = false ∨ ¬ frm + d < too ∨ ft pt qt pn a (cl pt qt pn a) (tx (frm + d)) = false) (hn : ∀ j, j ≤ 400 → nv j = bI (NB tx pt qt pn frm too a F d j)) :
    ∀ j, j ≤ 400 → nv j = bI (NB tx pt qt pn frm too a F (d + 1) j) := by
  intro j hj
  have h' : ¬ iu pt qt pn a (nI 42) = true := by rw [h]; decide
  rw [hn j hj]; unfold NB; rw [if_neg h', if_neg h']
  by_cases q : j = frm + d + 1
  · subst q
    rw [decide_eq_false (by omega), show frm + d + 1 - 1 = frm + d from rfl]
    rcases hm with e | e | e
    · rw [e]; simp
    · rw [decide_eq_false (by omega)]
    · rw [e]; simp
  · by_cases q2 : frm < j ∧ j ≤ frm + d ∧ j ≤ too
    · rw [decide_eq_true q2, decide_eq_true (by omega)]
    · rw [decide_eq_false q2, decide_eq_false (by omega)]
/-- the row behind the sign at a -/
def sgB (tx pt qt : Nat → Int32) (pn frm too : Nat) (F : Nat → Bool) (a : Nat) : Nat → Bool := NB tx pt qt pn frm too a F (too + 1 - frm)
/-- the row behind the pattern -/
def rdB (tx pt qt : Nat → Int32) (pn frm too : Nat) : Nat → Nat → (Nat → Bool) → (Nat → Bool)
  | 0, _, F => F
  | f + 1, a, F => if a < pn then rdB tx pt qt pn frm too f (nx pt qt pn a) (sgB tx pt qt pn frm too F a) else F
theorem rdB_out {tx pt qt : Nat → Int32} {pn frm too a : Nat} {F : Nat → Bool} (h : pn ≤ a) : ∀ f, rdB tx pt qt pn frm too f a F = F
  | 0 => rfl
  | f + 1 => by unfold rdB; rw [if_neg (by omega)]
theorem rdB_more {tx pt qt : Nat → Int32} {pn frm too : Nat} : ∀ (f h a : Nat) (F : Nat → Bool), pn ≤ a + f → pn ≤ a + h → rdB tx pt qt pn frm too f a F = rdB tx pt qt pn frm too h a F
  | 0, h, a, F, h1, _ => by rw [rdB_out (by omega), rdB_out (by omega)]
  | f + 1, 0, a, F, _, h2 => by rw [rdB_out (by omega), rdB_out (by omega)]
  | f + 1, h + 1, a, F, h1, h2 => by
    unfold rdB
    have := nx_gt pt qt pn a
    split
    · exact rdB_more f h _ _ (by omega) (by omega)
    · rfl
theorem rdB_go {tx pt qt : Nat → Int32} {pn frm too a : Nat} {F : Nat → Bool} (h : a < pn) : rdB tx pt qt pn frm too (pn - a) a F = rdB tx pt qt pn frm too (pn - nx pt qt pn a) (nx pt qt pn a) (sgB tx pt qt pn frm too F a) := by
  have := nx_gt pt qt pn a
  rw [show pn - a = (pn - a - 1) + 1 by omega]
  conv => lhs; unfold rdB
  rw [if_pos h]
  exact rdB_more _ _ _ _ (by omega) (by omega)
/-- the row that a match begins with -/
def fB (frm : Nat) : Nat → Bool := fun j => decide (j = frm)
/-- does the text from frm up to too match, by the reference? -/
def mM (tx pt qt : Nat → Int32) (pn frm too : Nat) : Nat → Bool := rdB tx pt qt pn frm too pn 0 (fB frm)
theorem sa_0 {pt qt : Nat → Int32} {pn a : Nat} (h1 : iu pt qt pn a (nI 42) = false) (h2 : iu pt qt pn a (nI 63) = false) (h3 : iu pt qt pn a (nI 91) = false) : sa pt qt pn a = false := by
  unfold sa; rw [h1, h2, h3]; rfl
theorem sa_1 {pt qt : Nat → Int32} {pn a : Nat} (h : iu pt qt pn a (nI 42) = true ∨ iu pt qt pn a (nI 63) = true ∨ iu pt qt pn a (nI 91) = true) : sa pt qt pn a = true := by
  unfold sa; rcases h with h | h | h <;> simp [h]
end
section
/-! the class shifts in zeros, the reference the sign: the bits that are looked at are the same -/
theorem sh_l64 : ∀ s, s < 64 → (((nI s).toInt64 &&& 63).toBitVec.smod 64).toNat = s := by decide +kernel
theorem sh_u64 : ∀ s, s < 64 → (((nI s).toInt64.toUInt64 &&& Int64.toUInt64 63).toBitVec % 64).toNat = s := by decide +kernel
theorem sh_l32 : ∀ s, s < 32 → ((nI s &&& 31).toBitVec.smod 32).toNat = s := by decide +kernel
theorem sh_u32 : ∀ s, s < 32 → (((nI s).toUInt32 &&& Int32.toUInt32 31).toBitVec % 32).toNat = s := by decide +kernel
theorem b255 : ∀ i, i < 64 → 8 ≤ i → (255 : Int64).toBitVec.getLsbD i = false := by decide +kernel
theorem b001 : ∀ i, i < 32 → 1 ≤ i → (nI 1).toBitVec.getLsbD i = false := by decide +kernel
theorem bs_bu {x : Int64} {s : Nat} (hs : s ≤ 56) : ((x >>> ((nI s).toInt64 &&& 63)) &&& 255).toInt32 = bu x s := by
  unfold bu
  have h : (x >>> ((nI s).toInt64 &&& 63)) &&& 255 = (x.toUInt64 >>> ((nI s).toInt64.toUInt64 &&& Int64.toUInt64 63)).toInt64 &&& 255 := by
    apply Int64.toBitVec_inj.mp
    rw [Int64.toBitVec_and, Int64.toBitVec_and]
    apply BitVec.eq_of_getLsbD_eq
    intro i hi
    rw [BitVec.getLsbD_and, BitVec.getLsbD_and]
    by_cases h8 : i < 8
    · have e : (x >>> ((nI s).toInt64 &&& 63)).toBitVec.getLsbD i = (x.toUInt64 >>> ((nI s).toInt64.toUInt64 &&& Int64.toUInt64 63)).toInt64.toBitVec.getLsbD i := by
        show (x.toBitVec.sshiftRight (((nI s).toInt64 &&& 63).toBitVec.smod 64).toNat).getLsbD i = (x.toUInt64 >>> ((nI s).toInt64.toUInt64 &&& Int64.toUInt64 63)).toBitVec.getLsbD i
        rw [UInt64.toBitVec_shiftRight]
        show _ = (x.toBitVec >>> (((nI s).toInt64.toUInt64 &&& Int64.toUInt64 63).toBitVec % 64).toNat).getLsbD i
        rw [sh_l64 s (by omega), sh_u64 s (by omega), BitVec.getLsbD_sshiftRight, BitVec.getLsbD_ushiftRight, if_pos (by omega)]
        simp
        intro q
        omega
      rw [e]
    · rw [b255 i hi (by omega), Bool.and_false, Bool.and_false]
  rw [h]
theorem qs_qb {q : Int32} {k : Nat} (hk : k < 31) : ((q >>> (nI k &&& 31)) &&& nI 1) = ((q.toUInt32 >>> ((nI k).toUInt32 &&& Int32.toUInt32 31)).toInt32 &&& nI 1) := by
  apply Int32.toBitVec_inj.mp
  rw [Int32.toBitVec_and, Int32.toBitVec_and]
  apply BitVec.eq_of_getLsbD_eq
  intro i hi
  rw [BitVec.getLsbD_and, BitVec.getLsbD_and]
  by_cases h8 : i < 1
  · have e : (q >>> (nI k &&& 31)).toBitVec.getLsbD i = (q.toUInt32 >>> ((nI k).toUInt32 &&& Int32.toUInt32 31)).toInt32.toBitVec.getLsbD i := by
      show (q.toBitVec.sshiftRight ((nI k &&& 31).toBitVec.smod 32).toNat).getLsbD i = (q.toUInt32 >>> ((nI k).toUInt32 &&& Int32.toUInt32 31)).toBitVec.getLsbD i
      rw [UInt32.toBitVec_shiftRight]
      show _ = (q.toBitVec >>> (((nI k).toUInt32 &&& Int32.toUInt32 31).toBitVec % 32).toNat).getLsbD i
      rw [sh_l32 k (by omega), sh_u32 k (by omega), BitVec.getLsbD_sshiftRight, BitVec.getLsbD_ushiftRight, if_pos (by omega)]
      simp
      intro q
      omega
    rw [e]
  · rw [b001 i hi (by omega), Bool.and_false, Bool.and_false]
theorem hrm_y {ln lim j : Nat} (hj : j ≤ 8) (h : ln + j ≤ lim) : hrm ln lim (nI j) = true := by rw [hrm_c hj, decide_eq_true h]
theorem hrm_x {ln lim j : Nat} (hj : j ≤ 8) (h : ¬ ln + j ≤ lim) : hrm ln lim (nI j) = false := by rw [hrm_c hj, decide_eq_false h]
/-- a counter that runs down to -1: d - 1 -/
def pI : Nat → Int32
  | 0 => -1
  | d + 1 => nI d
theorem pI_dec : ∀ d, nI d + (-1) = pI d
  | 0 => by decide
  | d + 1 => pk_m1 d
/-- is there a part from p0 up to p1 of a text of tn characters? -/
def okp (tn : Nat) (p0 p1 : Int32) : Bool := decide (¬ p0 < 0) && (decide (¬ p1 < p0) && decide (p1 ≤ nI tn))
theorem okp_a {tn : Nat} {p0 p1 : Int32} (h : p0 < 0) : okp tn p0 p1 = false := by simp [okp, h]
theorem okp_b {tn : Nat} {p0 p1 : Int32} (h : p1 < p0) : okp tn p0 p1 = false := by simp [okp, h]
theorem okp_c {tn : Nat} {p0 p1 : Int32} (h : ¬ p1 ≤ nI tn) : okp tn p0 p1 = false := by simp [okp, h]
theorem okp_y {tn : Nat} {p0 p1 : Int32} (h1 : ¬ p0 < 0) (h2 : ¬ p1 < p0) (h3 : p1 ≤ nI tn) : okp tn p0 p1 = true := by simp [okp, h1, h2, h3]
theorem okp_t {tn : Nat} {p0 p1 : Int32} (ht : tn ≤ 400) (h1 : ¬ p0 < 0) (h2 : ¬ p1 < p0) (h3 : p1 ≤ nI tn) : ∃ frm too : Nat, frm ≤ too ∧ too ≤ tn ∧ p0 = nI frm ∧ p1 = nI too := by
  obtain ⟨frm, hf, rfl⟩ := nI_of h1
  have q1 : (nI frm).toInt = frm := nI_toInt hf
  have q2 := mt Int32.lt_iff_toInt_lt.mpr h2
  rw [q1] at q2
  have q3 : ¬ p1 < 0 := by
    intro q
    have q4 := Int32.lt_iff_toInt_lt.mp q
    rw [Int32.toInt_zero] at q4
    omega
  obtain ⟨too, ht2, rfl⟩ := nI_of q3
  have q5 : (nI too).toInt = too := nI_toInt ht2
  rw [q5] at q2
  have q6 := (nI_leI (by omega) (by omega)).mp h3
  exact ⟨frm, too, by omega, q6, rfl, rfl⟩
/-- what the reference counts on its way -/
def cw (pt qt : Nat → Int32) (pn : Nat) (wh : Int32) (i : Nat) : Nat := if wh = nI 2 then cq qt i else cs pt qt pn i
theorem cw_le (pt qt : Nat → Int32) (pn : Nat) (wh : Int32) (i : Nat) : cw pt qt pn wh i ≤ i := by
  unfold cw; split
  · exact cq_le qt i
  · exact cs_le pt qt pn i
theorem cw_0 {pt qt : Nat → Int32} {pn : Nat} {wh : Int32} : cw pt qt pn wh 0 = 0 := by unfold cw; split <;> rfl
theorem cw_qn {pt qt : Nat → Int32} {pn : Nat} {wh : Int32} {i : Nat} (h : wh = nI 2) (q : qt i = 0) : cw pt qt pn wh (i + 1) = cw pt qt pn wh i + 0 := by
  unfold cw; rw [if_pos h, if_pos h]; conv => lhs; unfold cq
  rw [if_pos q]; rfl
theorem cw_qy {pt qt : Nat → Int32} {pn : Nat} {wh : Int32} {i : Nat} (h : wh = nI 2) (q : ¬ qt i = 0) : cw pt qt pn wh (i + 1) = cw pt qt pn wh i + 1 := by
  unfold cw; rw [if_pos h, if_pos h]; conv => lhs; unfold cq
  rw [if_neg q]
theorem cw_sn {pt qt : Nat → Int32} {pn : Nat} {wh : Int32} {i : Nat} (h : ¬ wh = nI 2) (q : cl pt qt pn i = none) : cw pt qt pn wh (i + 1) = cw pt qt pn wh i + 0 := by
  unfold cw; rw [if_neg h, if_neg h]; conv => lhs; unfold cs
  rw [if_pos q]; rfl
theorem cw_sy {pt qt : Nat → Int32} {pn : Nat} {wh : Int32} {i : Nat} (h : ¬ wh = nI 2) (q : ¬ cl pt qt pn i = none) : cw pt qt pn wh (i + 1) = cw pt qt pn wh i + 1 := by
  unfold cw; rw [if_neg h, if_neg h]; conv => lhs; unfold cs
  rw [if_neg q]
end
section
/-! the reference: methods that only read: by wip/whole/gen/gen20.py -/
set_option maxHeartbeats 4000000 in
set_option maxRecDepth 100000 in
theorem c_M_is (l : Launch) (dC : Nat → ClassId) (dI : Nat → Nat → Nat) (h0 a1 a2 a3 a4 a5 : Nat) (cI cZ : ClassId) (cd : Int32) (tx pt qt ar nr : Nat → Int32) (tn pn : Nat) (hp : pn ≤ 200) (a : Nat) (ha : a ≤ 1000) (ch : Int32) : Met l y_M_is (.code y_M_is b_M_is 3 (some .boolean) :: wB) (Rm 0 0) (va_Pc [.ref h0, .int (nI a), .int ch] (fun U => va_P (dC, dI) classes (wM h0 a1 a2 a3 a4 a5 cI cZ cd tx pt qt ar nr tn pn) U.heap ∧ va_K (dC, dI) classes (tyIZ cI cZ) U)) (vp_Si (fun r => r = bI (iu pt qt pn a ch))) 0 0 (fun _ => False) := by
  refine Met.ofW (cc := b_M_is) (maxL := 3) (ret := (some .boolean)) (by decide) rfl ?_
  intro p e s mm args below meth c s₁ B hml hv
  obtain ⟨rfl, hP, hK⟩ := hv
  have hx := B.exec
  have hb := B.bytes
  have hr := B.returns
  have hts := atoms_spec (ws := (.code y_M_is b_M_is 3 (some .boolean) :: wB)) B.pre
  have htB : ∀ w ∈ wB, w.before _ s = true := fun w h => hts w (List.mem_cons_of_mem _ h)
  have hown : s.vm.findClass R_M = some mm.cls := findClass_of_methodNamed B.named
  have hlocks := B.notSynchronized
  have hl := lv_entry ([.ref h0, .int (nI a), .int ch]) (n := 3) (Nat.le_of_ble_eq_true rfl)
  rw [lg_entry_eq]
  generalize (lg_sl ([.ref h0, .int (nI a), .int ch]) ++ List.replicate (3 - (lg_sl ([.ref h0, .int (nI a), .int ch])).length) Slot.unset).toArray = ls at hl ⊢
  have hl : lv_has ls 3 [(0, .ref h0), (1, .int (nI a)), (2, .int ch)] := hl
  refine lv_iload_n hx hb d_M_is_0 rfl (lv_at hl 1 rfl) ?_
  refine lv_aload_n hx hb d_M_is_1 rfl (lv_at hl 0 rfl) ?_
  refine va_get (D := (dC, dI)) (ci := 1) (v := .int (nI pn)) (C := R_M) (T := F_M) (N := 8) hx hb htB in_M hown hK hP 0 rfl rfl 5 (by decide) (htB _ hfl_M_35) (fun _ h9 => h9) rfl d_M_is_2 ?_
  refine lv_icmp_ge (tgt := 31) hx hb d_M_is_5 (by decide) (fun c_1 => ?_) (fun c_1 => ?_)
  · have c_1 := (nI_leI (by omega) (by omega)).mp c_1
    refine lv_iconst (v := nI 0) hx hb d_M_is_31 (by decide) ?_
    exact W.zret (v := nI 0) hx hb hr (by rfl) (fun t ht hW => ⟨_, rfl, by first | (rw [iu_t (by omega) ‹_› ‹_›]; rfl) | (rw [iu_n (by omega)]; rfl) | (rw [iu_q ‹_›]; rfl) | (rw [iu_c ‹_›]; rfl), ht⟩) (fun q h => nomatch h) d_M_is_32
  · have c_1 := mt (nI_leI (by omega) (by omega)).mpr c_1
    refine lv_aload_n hx hb d_M_is_8 rfl (lv_at hl 0 rfl) ?_
    refine va_get (D := (dC, dI)) (ci := 1) (v := .ref a3) (C := R_M) (T := F_M) (N := 8) hx hb htB in_M hown hK hP 0 rfl rfl 3 (by decide) (htB _ hfl_M_16) (fun _ h9 => h9) rfl d_M_is_9 ?_
    refine lv_iload_n hx hb d_M_is_12 rfl (lv_at hl 1 rfl) ?_
    refine va_zald hx hb hK hP 3 1 rfl rfl (vp_in_nI (n := a) (by omega) (by decide)) d_M_is_13 ?_
    refine lv_topi (fun v_2 ev_2 => ?_)
    obtain rfl : v_2 = qt a := ev_2.trans (by rw [nI_clamp (n := a) (by omega)])
    refine lv_if_ne (tgt := 31) hx hb d_M_is_14 (by decide) (fun c_3 => ?_) (fun c_3 => ?_)
    · refine lv_iconst (v := nI 0) hx hb d_M_is_31 (by decide) ?_
      exact W.zret (v := nI 0) hx hb hr (by rfl) (fun t ht hW => ⟨_, rfl, by first | (rw [iu_t (by omega) ‹_› ‹_›]; rfl) | (rw [iu_n (by omega)]; rfl) | (rw [iu_q ‹_›]; rfl) | (rw [iu_c ‹_›]; rfl), ht⟩) (fun q h => nomatch h) d_M_is_32
    · refine lv_aload_n hx hb d_M_is_17 rfl (lv_at hl 0 rfl) ?_
      refine va_get (D := (dC, dI)) (ci := 1) (v := .ref a2) (C := R_M) (T := F_M) (N := 8) hx hb htB in_M hown hK hP 0 rfl rfl 2 (by decide) (htB _ hfl_M_13) (fun _ h9 => h9) rfl d_M_is_18 ?_
      refine lv_iload_n hx hb d_M_is_21 rfl (lv_at hl 1 rfl) ?_
      refine va_iald hx hb hK hP 2 0 rfl rfl (vp_in_nI (n := a) (by omega) (by decide)) d_M_is_22 ?_
      refine lv_topi (fun v_4 ev_4 => ?_)
      obtain rfl : v_4 = pt a := ev_4.trans (by rw [nI_clamp (n := a) (by omega)])
      refine lv_iload_n hx hb d_M_is_23 rfl (lv_at hl 2 rfl) ?_
      refine lv_icmp_ne (tgt := 31) hx hb d_M_is_24 (by decide) (fun c_5 => ?_) (fun c_5 => ?_)
      · refine lv_iconst (v := nI 0) hx hb d_M_is_31 (by decide) ?_
        exact W.zret (v := nI 0) hx hb hr (by rfl) (fun t ht hW => ⟨_, rfl, by first | (rw [iu_t (by omega) ‹_› ‹_›]; rfl) | (rw [iu_n (by omega)]; rfl) | (rw [iu_q ‹_›]; rfl) | (rw [iu_c ‹_›]; rfl), ht⟩) (fun q h => nomatch h) d_M_is_32
      · refine lv_iconst (v := nI 1) hx hb d_M_is_27 (by decide) ?_
        refine lv_goto (tgt := 32) hx hb d_M_is_28 (by decide) ?_
        exact W.zret (v := nI 1) hx hb hr (by rfl) (fun t ht hW => ⟨_, rfl, by first | (rw [iu_t (by omega) ‹_› ‹_›]; rfl) | (rw [iu_n (by omega)]; rfl) | (rw [iu_q ‹_›]; rfl) | (rw [iu_c ‹_›]; rfl), ht⟩) (fun q h => nomatch h) d_M_is_32

theorem r_M_is {p : Program} {l : Launch} {e : Env} {R : Room} {s : State} {mm : MethodId} {args : Array Value} {below : List Frame} {meth : Method} {c : Code} {H : Heap} {locs : List Loc} {cells slots : Nat} {Q : State → Prop} {cc : ByteArray} {pcn nL : Nat} {ls : Array Slot} {rest : List Value} {dC : Nat → ClassId} {dI : Nat → Nat → Nat} {h0 a1 a2 a3 a4 a5 : Nat} {cI cZ : ClassId} {cd : Int32} {tx pt qt ar nr : Nat → Int32} {tn pn : Nat} (hp : pn ≤ 200) {a : Nat} (ha : a ≤ 1000) {ch : Int32} (hx : p.tables.exec = Jvm.exec) (hb : c.code = cc) (hml : c.maxLocals = nL) (hown : s.vm.findClass R_M = some mm.cls) (htB : ∀ w ∈ wB, w.before args s = true) (hK : va_K (dC, dI) classes (tyIZ cI cZ) s) (hP : va_P (dC, dI) classes (wM h0 a1 a2 a3 a4 a5 cI cZ cd tx pt qt ar nr tn pn) H) (hls : ls.size = nL) (hre : (rest.map fun v => v.category).sum ≤ 8) (hR : 0 + 1 ≤ R.frames ∧ 8 + (3 + 11) + 0 ≤ R.locals) (hce : cells ≤ R.cells ∧ slots ≤ R.slots) (hd : decode cc pcn = .ok (.invokevirtual 38, 3)) (kk : W p l e R s mm args below meth c H locs cells slots Q (F0 mm (pcn + 3) ls (.int (bI (iu pt qt pn a ch)) :: rest))) : W p l e R s mm args below meth c H locs cells slots Q (F0 mm pcn ls (.int ch :: .int (nI a) :: .ref h0 :: rest)) := by
  refine vp_callSi (va_Run.run (va_runV (As := [.int (nI a), .int ch]) (rest := rest) ⟨hx, hb, hml, hown, htB⟩ (c_M_is l dC dI h0 a1 a2 a3 a4 a5 cI cZ cd tx pt qt ar nr tn pn hp a ha ch) (cwV 2 htB (gV hml_M_38 hinm_M_is hsel_M_is hini_M hco_M_is) rfl rfl rfl (by decide +kernel) hR) ⟨fun a U g mk q => by obtain ⟨q0, qP, qK⟩ := q; exact ⟨q0, qP, va_K.moved (u := U) (U := U.calling g mk a) (Vm.Alike.refl U.vm) qK⟩, va_recv hK hP (ci := 1) (q0 := 0) rfl rfl, fun U hU hW => ⟨rfl, by rw [hU]; exact hP, va_K.moved hW.alike hK⟩⟩ rfl rfl hls rfl (lv_room hre) hd ⟨hce.1, hce.2⟩)) (fun r hr => ?_)
  rw [hr]; exact kk

set_option maxHeartbeats 4000000 in
set_option maxRecDepth 100000 in
theorem c_M_closed (l : Launch) (dC : Nat → ClassId) (dI : Nat → Nat → Nat) (h0 a1 a2 a3 a4 a5 : Nat) (cI cZ : ClassId) (cd : Int32) (tx pt qt ar nr : Nat → Int32) (tn pn : Nat) (hp : pn ≤ 200) (a : Nat) (ha : a ≤ 500) : Met l y_M_closed (.code y_M_closed b_M_closed 3 (some .int) :: wB) (Rm 1 22) (va_Pc [.ref h0, .int (nI a)] (fun U => va_P (dC, dI) classes (wM h0 a1 a2 a3 a4 a5 cI cZ cd tx pt qt ar nr tn pn) U.heap ∧ va_K (dC, dI) classes (tyIZ cI cZ) U)) (vp_Si (fun r => r = oI (cl pt qt pn a))) 0 0 (fun _ => False) := by
  refine Met.ofW (cc := b_M_closed) (maxL := 3) (ret := (some .int)) (by decide) rfl ?_
  intro p e s mm args below meth c s₁ B hml hv
  obtain ⟨rfl, hP, hK⟩ := hv
  have hx := B.exec
  have hb := B.bytes
  have hr := B.returns
  have hts := atoms_spec (ws := (.code y_M_closed b_M_closed 3 (some .int) :: wB)) B.pre
  have htB : ∀ w ∈ wB, w.before _ s = true := fun w h => hts w (List.mem_cons_of_mem _ h)
  have hown : s.vm.findClass R_M = some mm.cls := findClass_of_methodNamed B.named
  have hlocks := B.notSynchronized
  have hl := lv_entry ([.ref h0, .int (nI a)]) (n := 3) (Nat.le_of_ble_eq_true rfl)
  rw [lg_entry_eq]
  generalize (lg_sl ([.ref h0, .int (nI a)]) ++ List.replicate (3 - (lg_sl ([.ref h0, .int (nI a)])).length) Slot.unset).toArray = ls at hl ⊢
  have hl : lv_has ls 3 [(0, .ref h0), (1, .int (nI a))] := hl
  have loop : ∀ (n i : Nat), i ≤ 1000 → 1000 < i + n → oI (sc pt qt pn (pn + 1 - i) i) = oI (cl pt qt pn a) → ∀ ls : Array Slot, lv_has ls 3 [(2, .int (nI i)), (0, .ref h0), (1, .int (nI a))] → W p l e (Rm 1 22) s mm [.ref h0, .int (nI a)].toArray below meth c s.heap [] 0 0 (MQ below (vp_Si (fun r => r = oI (cl pt qt pn a))) [.ref h0, .int (nI a)].toArray s 0 0 (fun _ => False)) (F0 mm 34 ls []) := by
    intro n
    induction n with
    | zero => intro i h1 h2; exact absurd h2 (by omega)
    | succ n ih =>
      intro i hi hn hE ls hl
      refine lv_iload_n hx hb d_M_closed_34 rfl (lv_at hl 0 rfl) ?_
      refine lv_aload_n hx hb d_M_closed_35 rfl (lv_at hl 1 rfl) ?_
      refine va_get (D := (dC, dI)) (ci := 1) (v := .int (nI pn)) (C := R_M) (T := F_M) (N := 8) hx hb htB in_M hown hK hP 0 rfl rfl 5 (by decide) (htB _ hfl_M_35) (fun _ h9 => h9) rfl d_M_closed_36 ?_
      refine lv_icmp_ge (tgt := 58) hx hb d_M_closed_39 (by decide) (fun c_1 => ?_) (fun c_1 => ?_)
      · have c_1 := (nI_leI (by omega) (by omega)).mp c_1
        refine lv_iload_n hx hb d_M_closed_58 rfl (lv_at hl 0 rfl) ?_
        refine lv_aload_n hx hb d_M_closed_59 rfl (lv_at hl 1 rfl) ?_
        refine va_get (D := (dC, dI)) (ci := 1) (v := .int (nI pn)) (C := R_M) (T := F_M) (N := 8) hx hb htB in_M hown hK hP 0 rfl rfl 5 (by decide) (htB _ hfl_M_35) (fun _ h9 => h9) rfl d_M_closed_60 ?_
        refine lv_icmp_ge (tgt := 70) hx hb d_M_closed_63 (by decide) (fun c_2 => ?_) (fun c_2 => ?_)
        · have c_2 := (nI_leI (by omega) (by omega)).mp c_2
          refine lv_iconst (v := -1) hx hb d_M_closed_70 (by decide) ?_
          exact W.iret (v := -1) hx hb hr (fun t ht hW => ⟨_, rfl, by first | (exfalso; omega) | (rw [← hE, sc_hit (by omega) ‹_›]; rfl) | (rw [← hE, sc_out (by omega)]; rfl), ht⟩) (fun q h => nomatch h) d_M_closed_71
        · have c_2 := mt (nI_leI (by omega) (by omega)).mpr c_2
          refine lv_iload_n hx hb d_M_closed_66 rfl (lv_at hl 0 rfl) ?_
          refine lv_goto (tgt := 71) hx hb d_M_closed_67 (by decide) ?_
          exact W.iret (v := nI i) hx hb hr (fun t ht hW => ⟨_, rfl, by first | (exfalso; omega) | (rw [← hE, sc_hit (by omega) ‹_›]; rfl) | (rw [← hE, sc_out (by omega)]; rfl), ht⟩) (fun q h => nomatch h) d_M_closed_71
      · have c_1 := mt (nI_leI (by omega) (by omega)).mpr c_1
        refine lv_aload_n hx hb d_M_closed_42 rfl (lv_at hl 1 rfl) ?_
        refine lv_iload_n hx hb d_M_closed_43 rfl (lv_at hl 0 rfl) ?_
        refine lv_bipush (v := nI 93) hx hb d_M_closed_44 (by decide) ?_
        refine r_M_is hp (by omega) hx hb hml hown htB hK hP hl.1 (Nat.le_of_ble_eq_true rfl) ⟨Nat.le_of_ble_eq_true rfl, Nat.le_of_ble_eq_true rfl⟩ ⟨Nat.zero_le _, Nat.zero_le _⟩ d_M_closed_46 ?_
        refine lv_if_ne (tgt := 58) hx hb d_M_closed_49 (by decide) (fun c_3 => ?_) (fun c_3 => ?_)
        · have c_3 := bI_nz.mp c_3
          refine lv_iload_n hx hb d_M_closed_58 rfl (lv_at hl 0 rfl) ?_
          refine lv_aload_n hx hb d_M_closed_59 rfl (lv_at hl 1 rfl) ?_
          refine va_get (D := (dC, dI)) (ci := 1) (v := .int (nI pn)) (C := R_M) (T := F_M) (N := 8) hx hb htB in_M hown hK hP 0 rfl rfl 5 (by decide) (htB _ hfl_M_35) (fun _ h9 => h9) rfl d_M_closed_60 ?_
          refine lv_icmp_ge (tgt := 70) hx hb d_M_closed_63 (by decide) (fun c_4 => ?_) (fun c_4 => ?_)
          · have c_4 := (nI_leI (by omega) (by omega)).mp c_4
            refine lv_iconst (v := -1) hx hb d_M_closed_70 (by decide) ?_
            exact W.iret (v := -1) hx hb hr (fun t ht hW => ⟨_, rfl, by first | (exfalso; omega) | (rw [← hE, sc_hit (by omega) ‹_›]; rfl) | (rw [← hE, sc_out (by omega)]; rfl), ht⟩) (fun q h => nomatch h) d_M_closed_71
          · have c_4 := mt (nI_leI (by omega) (by omega)).mpr c_4
            refine lv_iload_n hx hb d_M_closed_66 rfl (lv_at hl 0 rfl) ?_
            refine lv_goto (tgt := 71) hx hb d_M_closed_67 (by decide) ?_
            exact W.iret (v := nI i) hx hb hr (fun t ht hW => ⟨_, rfl, by first | (exfalso; omega) | (rw [← hE, sc_hit (by omega) ‹_›]; rfl) | (rw [← hE, sc_out (by omega)]; rfl), ht⟩) (fun q h => nomatch h) d_M_closed_71
        · have c_3 := bI_z.mp c_3
          refine lv_iinc (v := nI (i + 1)) (lv' := [(2, .int (nI (i + 1))), (0, .ref h0), (1, .int (nI a))]) hx hb d_M_closed_52 hl (k := 0) rfl (nI_add _ 1) (by decide) rfl (fun ls hl => ?_)
          refine lv_goto (tgt := 34) hx hb d_M_closed_55 (by decide) ?_
          exact ih (i + 1) (by omega) (by omega) (by rw [← sc_go (a := i) (by omega) ‹_›]; exact hE) ls hl
  refine lv_aload_n hx hb d_M_closed_0 rfl (lv_at hl 0 rfl) ?_
  refine lv_iload_n hx hb d_M_closed_1 rfl (lv_at hl 1 rfl) ?_
  refine lv_bipush (v := nI 91) hx hb d_M_closed_2 (by decide) ?_
  refine r_M_is hp (by omega) hx hb hml hown htB hK hP hl.1 (Nat.le_of_ble_eq_true rfl) ⟨Nat.le_of_ble_eq_true rfl, Nat.le_of_ble_eq_true rfl⟩ ⟨Nat.zero_le _, Nat.zero_le _⟩ d_M_closed_4 ?_
  refine lv_if_ne (tgt := 12) hx hb d_M_closed_7 (by decide) (fun c_1 => ?_) (fun c_1 => ?_)
  · have c_1 := bI_nz.mp c_1
    refine lv_aload_n hx hb d_M_closed_12 rfl (lv_at hl 0 rfl) ?_
    refine lv_iload_n hx hb d_M_closed_13 rfl (lv_at hl 1 rfl) ?_
    refine lv_iconst (v := nI 1) hx hb d_M_closed_14 (by decide) ?_
    refine lv_iadd hx hb d_M_closed_15 ?_
    refine lv_topi (fun v_2 ev_2 => ?_)
    obtain rfl : v_2 = nI (a + 1) := ev_2.trans (nI_add _ _)
    refine lv_bipush (v := nI 33) hx hb d_M_closed_16 (by decide) ?_
    refine r_M_is hp (by omega) hx hb hml hown htB hK hP hl.1 (Nat.le_of_ble_eq_true rfl) ⟨Nat.le_of_ble_eq_true rfl, Nat.le_of_ble_eq_true rfl⟩ ⟨Nat.zero_le _, Nat.zero_le _⟩ d_M_closed_18 ?_
    refine lv_if_eq (tgt := 30) hx hb d_M_closed_21 (by decide) (fun c_3 => ?_) (fun c_3 => ?_)
    · have c_3 := bI_z.mp c_3
      refine lv_iload_n hx hb d_M_closed_30 rfl (lv_at hl 1 rfl) ?_
      refine lv_iconst (v := nI 2) hx hb d_M_closed_31 (by decide) ?_
      refine lv_iadd hx hb d_M_closed_32 ?_
      refine lv_topi (fun v_4 ev_4 => ?_)
      obtain rfl : v_4 = nI (a + 2) := ev_4.trans (nI_add _ _)
      refine lv_istore_n (lv' := [(2, .int (nI (a + 2))), (0, .ref h0), (1, .int (nI a))]) hx hb d_M_closed_33 rfl hl (by decide) rfl (fun ls hl => ?_)
      have ef : fm pt qt pn a + 1 = a + 2 := by unfold fm; first | rw [if_pos ‹_›] | rw [if_neg (by rw [‹iu pt qt pn (a + 1) (nI 33) = false›]; decide)]
      exact loop 1001 (a + 2) (by omega) (by omega) (by unfold cl; rw [if_pos ‹iu pt qt pn a (nI 91) = true›, ef]) ls hl
    · have c_3 := bI_nz.mp c_3
      refine lv_iload_n hx hb d_M_closed_24 rfl (lv_at hl 1 rfl) ?_
      refine lv_iconst (v := nI 3) hx hb d_M_closed_25 (by decide) ?_
      refine lv_iadd hx hb d_M_closed_26 ?_
      refine lv_topi (fun v_5 ev_5 => ?_)
      obtain rfl : v_5 = nI (a + 3) := ev_5.trans (nI_add _ _)
      refine lv_goto (tgt := 33) hx hb d_M_closed_27 (by decide) ?_
      refine lv_istore_n (lv' := [(2, .int (nI (a + 3))), (0, .ref h0), (1, .int (nI a))]) hx hb d_M_closed_33 rfl hl (by decide) rfl (fun ls hl => ?_)
      have ef : fm pt qt pn a + 1 = a + 3 := by unfold fm; first | rw [if_pos ‹_›] | rw [if_neg (by rw [‹iu pt qt pn (a + 1) (nI 33) = false›]; decide)]
      exact loop 1001 (a + 3) (by omega) (by omega) (by unfold cl; rw [if_pos ‹iu pt qt pn a (nI 91) = true›, ef]) ls hl
  · have c_1 := bI_z.mp c_1
    refine lv_iconst (v := -1) hx hb d_M_closed_10 (by decide) ?_
    exact W.iret (v := -1) hx hb hr (fun t ht hW => ⟨_, rfl, by unfold cl; rw [if_neg (by rw [‹iu pt qt pn a (nI 91) = false›]; decide)]; rfl, ht⟩) (fun q h => nomatch h) d_M_closed_11

theorem r_M_closed {p : Program} {l : Launch} {e : Env} {R : Room} {s : State} {mm : MethodId} {args : Array Value} {below : List Frame} {meth : Method} {c : Code} {H : Heap} {locs : List Loc} {cells slots : Nat} {Q : State → Prop} {cc : ByteArray} {pcn nL : Nat} {ls : Array Slot} {rest : List Value} {dC : Nat → ClassId} {dI : Nat → Nat → Nat} {h0 a1 a2 a3 a4 a5 : Nat} {cI cZ : ClassId} {cd : Int32} {tx pt qt ar nr : Nat → Int32} {tn pn : Nat} (hp : pn ≤ 200) {a : Nat} (ha : a ≤ 500) (hx : p.tables.exec = Jvm.exec) (hb : c.code = cc) (hml : c.maxLocals = nL) (hown : s.vm.findClass R_M = some mm.cls) (htB : ∀ w ∈ wB, w.before args s = true) (hK : va_K (dC, dI) classes (tyIZ cI cZ) s) (hP : va_P (dC, dI) classes (wM h0 a1 a2 a3 a4 a5 cI cZ cd tx pt qt ar nr tn pn) H) (hls : ls.size = nL) (hre : (rest.map fun v => v.category).sum ≤ 8) (hR : 1 + 1 ≤ R.frames ∧ 8 + (3 + 11) + 22 ≤ R.locals) (hce : cells ≤ R.cells ∧ slots ≤ R.slots) (hd : decode cc pcn = .ok (.invokevirtual 46, 3)) (kk : W p l e R s mm args below meth c H locs cells slots Q (F0 mm (pcn + 3) ls (.int (oI (cl pt qt pn a)) :: rest))) : W p l e R s mm args below meth c H locs cells slots Q (F0 mm pcn ls (.int (nI a) :: .ref h0 :: rest)) := by
  refine vp_callSi (va_Run.run (va_runV (As := [.int (nI a)]) (rest := rest) ⟨hx, hb, hml, hown, htB⟩ (c_M_closed l dC dI h0 a1 a2 a3 a4 a5 cI cZ cd tx pt qt ar nr tn pn hp a ha) (cwV 1 htB (gV hml_M_46 hinm_M_closed hsel_M_closed hini_M hco_M_closed) rfl rfl rfl (by decide +kernel) hR) ⟨fun a U g mk q => by obtain ⟨q0, qP, qK⟩ := q; exact ⟨q0, qP, va_K.moved (u := U) (U := U.calling g mk a) (Vm.Alike.refl U.vm) qK⟩, va_recv hK hP (ci := 1) (q0 := 0) rfl rfl, fun U hU hW => ⟨rfl, by rw [hU]; exact hP, va_K.moved hW.alike hK⟩⟩ rfl rfl hls rfl (lv_room hre) hd ⟨hce.1, hce.2⟩)) (fun r hr => ?_)
  rw [hr]; exact kk

set_option maxHeartbeats 4000000 in
set_option maxRecDepth 100000 in
theorem c_M_isMember (l : Launch) (dC : Nat → ClassId) (dI : Nat → Nat → Nat) (h0 a1 a2 a3 a4 a5 : Nat) (cI cZ : ClassId) (cd : Int32) (tx pt qt ar nr : Nat → Int32) (tn pn : Nat) (hp : pn ≤ 200) (f k : Nat) (hf : f ≤ 500) (hk : k ≤ 200) (ch : Int32) : Met l y_M_isMember (.code y_M_isMember b_M_isMember 7 (some .boolean) :: wB) (Rm 1 22) (va_Pc [.ref h0, .int (nI f), .int (nI k), .int ch] (fun U => va_P (dC, dI) classes (wM h0 a1 a2 a3 a4 a5 cI cZ cd tx pt qt ar nr tn pn) U.heap ∧ va_K (dC, dI) classes (tyIZ cI cZ) U)) (vp_Si (fun r => r = bI (mb pt qt pn k ch (k + 1 - f) f))) 0 0 (fun _ => False) := by
  refine Met.ofW (cc := b_M_isMember) (maxL := 7) (ret := (some .boolean)) (by decide) rfl ?_
  intro p e s mm args below meth c s₁ B hml hv
  obtain ⟨rfl, hP, hK⟩ := hv
  have hx := B.exec
  have hb := B.bytes
  have hr := B.returns
  have hts := atoms_spec (ws := (.code y_M_isMember b_M_isMember 7 (some .boolean) :: wB)) B.pre
  have htB : ∀ w ∈ wB, w.before _ s = true := fun w h => hts w (List.mem_cons_of_mem _ h)
  have hown : s.vm.findClass R_M = some mm.cls := findClass_of_methodNamed B.named
  have hlocks := B.notSynchronized
  have hl := lv_entry ([.ref h0, .int (nI f), .int (nI k), .int ch]) (n := 7) (Nat.le_of_ble_eq_true rfl)
  rw [lg_entry_eq]
  generalize (lg_sl ([.ref h0, .int (nI f), .int (nI k), .int ch]) ++ List.replicate (7 - (lg_sl ([.ref h0, .int (nI f), .int (nI k), .int ch])).length) Slot.unset).toArray = ls at hl ⊢
  have hl : lv_has ls 7 [(0, .ref h0), (1, .int (nI f)), (2, .int (nI k)), (3, .int ch)] := hl
  have loop : ∀ (n i : Nat) (rr : Bool), i ≤ 1000 → 1000 < i + n → (rr || mb pt qt pn k ch (k + 1 - i) i) = mb pt qt pn k ch (k + 1 - f) f → ∀ ls : Array Slot, lv_has ls 7 [(4, .int (bI rr)), (5, .int (nI i)), (0, .ref h0), (1, .int (nI f)), (2, .int (nI k)), (3, .int ch)] → W p l e (Rm 1 22) s mm [.ref h0, .int (nI f), .int (nI k), .int ch].toArray below meth c s.heap [] 0 0 (MQ below (vp_Si (fun r => r = bI (mb pt qt pn k ch (k + 1 - f) f))) [.ref h0, .int (nI f), .int (nI k), .int ch].toArray s 0 0 (fun _ => False)) (F0 mm 6 ls []) := by
    intro n
    induction n with
    | zero => intro i rr h1 h2; exact absurd h2 (by omega)
    | succ n ih =>
      intro i rr hi hn hE ls hl
      refine lv_iload hx hb d_M_isMember_6 (lv_at hl 1 rfl) ?_
      refine lv_iload_n hx hb d_M_isMember_8 rfl (lv_at hl 4 rfl) ?_
      refine lv_icmp_ge (tgt := 113) hx hb d_M_isMember_9 (by decide) (fun c_1 => ?_) (fun c_1 => ?_)
      · have c_1 := (nI_leI (by omega) (by omega)).mp c_1
        refine lv_iload hx hb d_M_isMember_113 (lv_at hl 0 rfl) ?_
        exact W.zret (v := bI rr) hx hb hr (bI_nar _) (fun t ht hW => ⟨_, rfl, by rw [← hE, mb_out (by omega), Bool.or_false], ht⟩) (fun q h => nomatch h) d_M_isMember_115
      · have c_1 := mt (nI_leI (by omega) (by omega)).mpr c_1
        refine lv_iload hx hb d_M_isMember_12 (lv_at hl 1 rfl) ?_
        refine lv_iconst (v := nI 2) hx hb d_M_isMember_14 (by decide) ?_
        refine lv_iadd hx hb d_M_isMember_15 ?_
        refine lv_topi (fun v_2 ev_2 => ?_)
        obtain rfl : v_2 = nI (i + 2) := ev_2.trans (nI_add _ _)
        refine lv_iload_n hx hb d_M_isMember_16 rfl (lv_at hl 4 rfl) ?_
        refine lv_icmp_ge (tgt := 37) hx hb d_M_isMember_17 (by decide) (fun c_3 => ?_) (fun c_3 => ?_)
        · have c_3 := (nI_leI (by omega) (by omega)).mp c_3
          refine lv_iconst (v := nI 0) hx hb d_M_isMember_37 (by decide) ?_
          refine lv_istore (lv' := [(6, .int (nI 0)), (4, .int (bI rr)), (5, .int (nI i)), (0, .ref h0), (1, .int (nI f)), (2, .int (nI k)), (3, .int ch)]) hx hb d_M_isMember_38 hl (by decide) rfl (fun ls hl => ?_)
          refine lv_iload hx hb d_M_isMember_40 (lv_at hl 1 rfl) ?_
          refine lv_if_ne (tgt := 88) hx hb d_M_isMember_42 (by decide) (fun c_4 => ?_) (fun c_4 => ?_)
          · have c_4 := bI_nz.mp c_4
            refine lv_iconst (v := nI 1) hx hb d_M_isMember_88 (by decide) ?_
            refine lv_goto (tgt := 93) hx hb d_M_isMember_89 (by decide) ?_
            refine lv_istore (lv' := [(4, .int (nI 1)), (6, .int (nI 0)), (5, .int (nI i)), (0, .ref h0), (1, .int (nI f)), (2, .int (nI k)), (3, .int ch)]) hx hb d_M_isMember_93 hl (by decide) rfl (fun ls hl => ?_)
            refine lv_iload hx hb d_M_isMember_95 (lv_at hl 2 rfl) ?_
            refine lv_iload hx hb d_M_isMember_97 (lv_at hl 1 rfl) ?_
            refine lv_if_eq (tgt := 106) hx hb d_M_isMember_99 (by decide) (fun c_5 => ?_) (fun c_5 => ?_)
            · clear c_5
              refine lv_iconst (v := nI 1) hx hb d_M_isMember_106 (by decide) ?_
              refine lv_iadd hx hb d_M_isMember_107 ?_
              refine lv_topi (fun v_6 ev_6 => ?_)
              obtain rfl : v_6 = nI (i + 1) := ev_6.trans (nI_add _ _)
              refine lv_istore (lv' := [(5, .int (nI (i + 1))), (4, .int (nI 1)), (6, .int (nI 0)), (0, .ref h0), (1, .int (nI f)), (2, .int (nI k)), (3, .int ch)]) hx hb d_M_isMember_108 hl (by decide) rfl (fun ls hl => ?_)
              refine lv_goto (tgt := 6) hx hb d_M_isMember_110 (by decide) ?_
              exact ih (i + 1) true (by omega) (by omega) (by rw [← hE]; first | (rw [‹rr = true›]; rfl) | (rw [mb_one (a := i) (by omega) (by rintro ⟨q1, q2⟩; first | omega | (rw [‹iu pt qt pn (i + 1) (nI 45) = false›] at q2; exact absurd q2 (by decide))), (by first | exact nh3 ‹_› ‹_› | exact nh4 ‹_› : (decide (pt i ≤ ch) && decide (ch ≤ pt (i))) = true)]; simp)) ls (lv_sub hl [1, 0, 3, 4, 5, 6] rfl)
            · exact absurd c_5 (by decide)
          · have c_4 := bI_z.mp c_4
            refine lv_iload hx hb d_M_isMember_45 (lv_at hl 0 rfl) ?_
            refine lv_if_eq (tgt := 77) hx hb d_M_isMember_47 (by decide) (fun c_7 => ?_) (fun c_7 => ?_)
            · clear c_7
              refine lv_iload_n hx hb d_M_isMember_77 rfl (lv_at hl 6 rfl) ?_
              refine lv_aload_n hx hb d_M_isMember_78 rfl (lv_at hl 3 rfl) ?_
              refine va_get (D := (dC, dI)) (ci := 1) (v := .ref a2) (C := R_M) (T := F_M) (N := 8) hx hb htB in_M hown hK hP 0 rfl rfl 2 (by decide) (htB _ hfl_M_13) (fun _ h9 => h9) rfl d_M_isMember_79 ?_
              refine lv_iload hx hb d_M_isMember_82 (lv_at hl 2 rfl) ?_
              refine va_iald hx hb hK hP 2 0 rfl rfl (vp_in_nI (n := i) (by omega) (by decide)) d_M_isMember_84 ?_
              refine lv_topi (fun v_8 ev_8 => ?_)
              obtain rfl : v_8 = pt i := ev_8.trans (by rw [nI_clamp (n := i) (by omega)])
              refine lv_icmp_ne (tgt := 92) hx hb d_M_isMember_85 (by decide) (fun c_9 => ?_) (fun c_9 => ?_)
              · refine lv_iconst (v := nI 0) hx hb d_M_isMember_92 (by decide) ?_
                refine lv_istore (lv' := [(4, .int (nI 0)), (6, .int (nI 0)), (5, .int (nI i)), (0, .ref h0), (1, .int (nI f)), (2, .int (nI k)), (3, .int ch)]) hx hb d_M_isMember_93 hl (by decide) rfl (fun ls hl => ?_)
                refine lv_iload hx hb d_M_isMember_95 (lv_at hl 2 rfl) ?_
                refine lv_iload hx hb d_M_isMember_97 (lv_at hl 1 rfl) ?_
                refine lv_if_eq (tgt := 106) hx hb d_M_isMember_99 (by decide) (fun c_10 => ?_) (fun c_10 => ?_)
                · clear c_10
                  refine lv_iconst (v := nI 1) hx hb d_M_isMember_106 (by decide) ?_
                  refine lv_iadd hx hb d_M_isMember_107 ?_
                  refine lv_topi (fun v_11 ev_11 => ?_)
                  obtain rfl : v_11 = nI (i + 1) := ev_11.trans (nI_add _ _)
                  refine lv_istore (lv' := [(5, .int (nI (i + 1))), (4, .int (nI 0)), (6, .int (nI 0)), (0, .ref h0), (1, .int (nI f)), (2, .int (nI k)), (3, .int ch)]) hx hb d_M_isMember_108 hl (by decide) rfl (fun ls hl => ?_)
                  refine lv_goto (tgt := 6) hx hb d_M_isMember_110 (by decide) ?_
                  exact ih (i + 1) false (by omega) (by omega) (by rw [← hE, ‹rr = false›, mb_one (a := i) (by omega) (by rintro ⟨q1, q2⟩; first | omega | (rw [‹iu pt qt pn (i + 1) (nI 45) = false›] at q2; exact absurd q2 (by decide))), (by first | exact nh1 ‹_› | exact nh2 ‹_› | exact nh5 ‹_› : (decide (pt i ≤ ch) && decide (ch ≤ pt (i))) = false)]; rfl) ls (lv_sub hl [1, 0, 3, 4, 5, 6] rfl)
                · exact absurd c_10 (by decide)
              · refine lv_iconst (v := nI 1) hx hb d_M_isMember_88 (by decide) ?_
                refine lv_goto (tgt := 93) hx hb d_M_isMember_89 (by decide) ?_
                refine lv_istore (lv' := [(4, .int (nI 1)), (6, .int (nI 0)), (5, .int (nI i)), (0, .ref h0), (1, .int (nI f)), (2, .int (nI k)), (3, .int ch)]) hx hb d_M_isMember_93 hl (by decide) rfl (fun ls hl => ?_)
                refine lv_iload hx hb d_M_isMember_95 (lv_at hl 2 rfl) ?_
                refine lv_iload hx hb d_M_isMember_97 (lv_at hl 1 rfl) ?_
                refine lv_if_eq (tgt := 106) hx hb d_M_isMember_99 (by decide) (fun c_12 => ?_) (fun c_12 => ?_)
                · clear c_12
                  refine lv_iconst (v := nI 1) hx hb d_M_isMember_106 (by decide) ?_
                  refine lv_iadd hx hb d_M_isMember_107 ?_
                  refine lv_topi (fun v_13 ev_13 => ?_)
                  obtain rfl : v_13 = nI (i + 1) := ev_13.trans (nI_add _ _)
                  refine lv_istore (lv' := [(5, .int (nI (i + 1))), (4, .int (nI 1)), (6, .int (nI 0)), (0, .ref h0), (1, .int (nI f)), (2, .int (nI k)), (3, .int ch)]) hx hb d_M_isMember_108 hl (by decide) rfl (fun ls hl => ?_)
                  refine lv_goto (tgt := 6) hx hb d_M_isMember_110 (by decide) ?_
                  exact ih (i + 1) true (by omega) (by omega) (by rw [← hE]; first | (rw [‹rr = true›]; rfl) | (rw [mb_one (a := i) (by omega) (by rintro ⟨q1, q2⟩; first | omega | (rw [‹iu pt qt pn (i + 1) (nI 45) = false›] at q2; exact absurd q2 (by decide))), (by first | exact nh3 ‹_› ‹_› | exact nh4 ‹_› : (decide (pt i ≤ ch) && decide (ch ≤ pt (i))) = true)]; simp)) ls (lv_sub hl [1, 0, 3, 4, 5, 6] rfl)
                · exact absurd c_12 (by decide)
            · exact absurd c_7 (by decide)
        · have c_3 := mt (nI_leI (by omega) (by omega)).mpr c_3
          refine lv_aload_n hx hb d_M_isMember_20 rfl (lv_at hl 2 rfl) ?_
          refine lv_iload hx hb d_M_isMember_21 (lv_at hl 1 rfl) ?_
          refine lv_iconst (v := nI 1) hx hb d_M_isMember_23 (by decide) ?_
          refine lv_iadd hx hb d_M_isMember_24 ?_
          refine lv_topi (fun v_14 ev_14 => ?_)
          obtain rfl : v_14 = nI (i + 1) := ev_14.trans (nI_add _ _)
          refine lv_bipush (v := nI 45) hx hb d_M_isMember_25 (by decide) ?_
          refine r_M_is hp (by omega) hx hb hml hown htB hK hP hl.1 (Nat.le_of_ble_eq_true rfl) ⟨Nat.le_of_ble_eq_true rfl, Nat.le_of_ble_eq_true rfl⟩ ⟨Nat.zero_le _, Nat.zero_le _⟩ d_M_isMember_27 ?_
          refine lv_if_eq (tgt := 37) hx hb d_M_isMember_30 (by decide) (fun c_15 => ?_) (fun c_15 => ?_)
          · have c_15 := bI_z.mp c_15
            refine lv_iconst (v := nI 0) hx hb d_M_isMember_37 (by decide) ?_
            refine lv_istore (lv' := [(6, .int (nI 0)), (4, .int (bI rr)), (5, .int (nI i)), (0, .ref h0), (1, .int (nI f)), (2, .int (nI k)), (3, .int ch)]) hx hb d_M_isMember_38 hl (by decide) rfl (fun ls hl => ?_)
            refine lv_iload hx hb d_M_isMember_40 (lv_at hl 1 rfl) ?_
            refine lv_if_ne (tgt := 88) hx hb d_M_isMember_42 (by decide) (fun c_16 => ?_) (fun c_16 => ?_)
            · have c_16 := bI_nz.mp c_16
              refine lv_iconst (v := nI 1) hx hb d_M_isMember_88 (by decide) ?_
              refine lv_goto (tgt := 93) hx hb d_M_isMember_89 (by decide) ?_
              refine lv_istore (lv' := [(4, .int (nI 1)), (6, .int (nI 0)), (5, .int (nI i)), (0, .ref h0), (1, .int (nI f)), (2, .int (nI k)), (3, .int ch)]) hx hb d_M_isMember_93 hl (by decide) rfl (fun ls hl => ?_)
              refine lv_iload hx hb d_M_isMember_95 (lv_at hl 2 rfl) ?_
              refine lv_iload hx hb d_M_isMember_97 (lv_at hl 1 rfl) ?_
              refine lv_if_eq (tgt := 106) hx hb d_M_isMember_99 (by decide) (fun c_17 => ?_) (fun c_17 => ?_)
              · clear c_17
                refine lv_iconst (v := nI 1) hx hb d_M_isMember_106 (by decide) ?_
                refine lv_iadd hx hb d_M_isMember_107 ?_
                refine lv_topi (fun v_18 ev_18 => ?_)
                obtain rfl : v_18 = nI (i + 1) := ev_18.trans (nI_add _ _)
                refine lv_istore (lv' := [(5, .int (nI (i + 1))), (4, .int (nI 1)), (6, .int (nI 0)), (0, .ref h0), (1, .int (nI f)), (2, .int (nI k)), (3, .int ch)]) hx hb d_M_isMember_108 hl (by decide) rfl (fun ls hl => ?_)
                refine lv_goto (tgt := 6) hx hb d_M_isMember_110 (by decide) ?_
                exact ih (i + 1) true (by omega) (by omega) (by rw [← hE]; first | (rw [‹rr = true›]; rfl) | (rw [mb_one (a := i) (by omega) (by rintro ⟨q1, q2⟩; first | omega | (rw [‹iu pt qt pn (i + 1) (nI 45) = false›] at q2; exact absurd q2 (by decide))), (by first | exact nh3 ‹_› ‹_› | exact nh4 ‹_› : (decide (pt i ≤ ch) && decide (ch ≤ pt (i))) = true)]; simp)) ls (lv_sub hl [1, 0, 3, 4, 5, 6] rfl)
              · exact absurd c_17 (by decide)
            · have c_16 := bI_z.mp c_16
              refine lv_iload hx hb d_M_isMember_45 (lv_at hl 0 rfl) ?_
              refine lv_if_eq (tgt := 77) hx hb d_M_isMember_47 (by decide) (fun c_19 => ?_) (fun c_19 => ?_)
              · clear c_19
                refine lv_iload_n hx hb d_M_isMember_77 rfl (lv_at hl 6 rfl) ?_
                refine lv_aload_n hx hb d_M_isMember_78 rfl (lv_at hl 3 rfl) ?_
                refine va_get (D := (dC, dI)) (ci := 1) (v := .ref a2) (C := R_M) (T := F_M) (N := 8) hx hb htB in_M hown hK hP 0 rfl rfl 2 (by decide) (htB _ hfl_M_13) (fun _ h9 => h9) rfl d_M_isMember_79 ?_
                refine lv_iload hx hb d_M_isMember_82 (lv_at hl 2 rfl) ?_
                refine va_iald hx hb hK hP 2 0 rfl rfl (vp_in_nI (n := i) (by omega) (by decide)) d_M_isMember_84 ?_
                refine lv_topi (fun v_20 ev_20 => ?_)
                obtain rfl : v_20 = pt i := ev_20.trans (by rw [nI_clamp (n := i) (by omega)])
                refine lv_icmp_ne (tgt := 92) hx hb d_M_isMember_85 (by decide) (fun c_21 => ?_) (fun c_21 => ?_)
                · refine lv_iconst (v := nI 0) hx hb d_M_isMember_92 (by decide) ?_
                  refine lv_istore (lv' := [(4, .int (nI 0)), (6, .int (nI 0)), (5, .int (nI i)), (0, .ref h0), (1, .int (nI f)), (2, .int (nI k)), (3, .int ch)]) hx hb d_M_isMember_93 hl (by decide) rfl (fun ls hl => ?_)
                  refine lv_iload hx hb d_M_isMember_95 (lv_at hl 2 rfl) ?_
                  refine lv_iload hx hb d_M_isMember_97 (lv_at hl 1 rfl) ?_
                  refine lv_if_eq (tgt := 106) hx hb d_M_isMember_99 (by decide) (fun c_22 => ?_) (fun c_22 => ?_)
                  · clear c_22
                    refine lv_iconst (v := nI 1) hx hb d_M_isMember_106 (by decide) ?_
                    refine lv_iadd hx hb d_M_isMember_107 ?_
                    refine lv_topi (fun v_23 ev_23 => ?_)
                    obtain rfl : v_23 = nI (i + 1) := ev_23.trans (nI_add _ _)
                    refine lv_istore (lv' := [(5, .int (nI (i + 1))), (4, .int (nI 0)), (6, .int (nI 0)), (0, .ref h0), (1, .int (nI f)), (2, .int (nI k)), (3, .int ch)]) hx hb d_M_isMember_108 hl (by decide) rfl (fun ls hl => ?_)
                    refine lv_goto (tgt := 6) hx hb d_M_isMember_110 (by decide) ?_
                    exact ih (i + 1) false (by omega) (by omega) (by rw [← hE, ‹rr = false›, mb_one (a := i) (by omega) (by rintro ⟨q1, q2⟩; first | omega | (rw [‹iu pt qt pn (i + 1) (nI 45) = false›] at q2; exact absurd q2 (by decide))), (by first | exact nh1 ‹_› | exact nh2 ‹_› | exact nh5 ‹_› : (decide (pt i ≤ ch) && decide (ch ≤ pt (i))) = false)]; rfl) ls (lv_sub hl [1, 0, 3, 4, 5, 6] rfl)
                  · exact absurd c_22 (by decide)
                · refine lv_iconst (v := nI 1) hx hb d_M_isMember_88 (by decide) ?_
                  refine lv_goto (tgt := 93) hx hb d_M_isMember_89 (by decide) ?_
                  refine lv_istore (lv' := [(4, .int (nI 1)), (6, .int (nI 0)), (5, .int (nI i)), (0, .ref h0), (1, .int (nI f)), (2, .int (nI k)), (3, .int ch)]) hx hb d_M_isMember_93 hl (by decide) rfl (fun ls hl => ?_)
                  refine lv_iload hx hb d_M_isMember_95 (lv_at hl 2 rfl) ?_
                  refine lv_iload hx hb d_M_isMember_97 (lv_at hl 1 rfl) ?_
                  refine lv_if_eq (tgt := 106) hx hb d_M_isMember_99 (by decide) (fun c_24 => ?_) (fun c_24 => ?_)
                  · clear c_24
                    refine lv_iconst (v := nI 1) hx hb d_M_isMember_106 (by decide) ?_
                    refine lv_iadd hx hb d_M_isMember_107 ?_
                    refine lv_topi (fun v_25 ev_25 => ?_)
                    obtain rfl : v_25 = nI (i + 1) := ev_25.trans (nI_add _ _)
                    refine lv_istore (lv' := [(5, .int (nI (i + 1))), (4, .int (nI 1)), (6, .int (nI 0)), (0, .ref h0), (1, .int (nI f)), (2, .int (nI k)), (3, .int ch)]) hx hb d_M_isMember_108 hl (by decide) rfl (fun ls hl => ?_)
                    refine lv_goto (tgt := 6) hx hb d_M_isMember_110 (by decide) ?_
                    exact ih (i + 1) true (by omega) (by omega) (by rw [← hE]; first | (rw [‹rr = true›]; rfl) | (rw [mb_one (a := i) (by omega) (by rintro ⟨q1, q2⟩; first | omega | (rw [‹iu pt qt pn (i + 1) (nI 45) = false›] at q2; exact absurd q2 (by decide))), (by first | exact nh3 ‹_› ‹_› | exact nh4 ‹_› : (decide (pt i ≤ ch) && decide (ch ≤ pt (i))) = true)]; simp)) ls (lv_sub hl [1, 0, 3, 4, 5, 6] rfl)
                  · exact absurd c_24 (by decide)
              · exact absurd c_19 (by decide)
          · have c_15 := bI_nz.mp c_15
            refine lv_iconst (v := nI 1) hx hb d_M_isMember_33 (by decide) ?_
            refine lv_goto (tgt := 38) hx hb d_M_isMember_34 (by decide) ?_
            refine lv_istore (lv' := [(6, .int (nI 1)), (4, .int (bI rr)), (5, .int (nI i)), (0, .ref h0), (1, .int (nI f)), (2, .int (nI k)), (3, .int ch)]) hx hb d_M_isMember_38 hl (by decide) rfl (fun ls hl => ?_)
            refine lv_iload hx hb d_M_isMember_40 (lv_at hl 1 rfl) ?_
            refine lv_if_ne (tgt := 88) hx hb d_M_isMember_42 (by decide) (fun c_26 => ?_) (fun c_26 => ?_)
            · have c_26 := bI_nz.mp c_26
              refine lv_iconst (v := nI 1) hx hb d_M_isMember_88 (by decide) ?_
              refine lv_goto (tgt := 93) hx hb d_M_isMember_89 (by decide) ?_
              refine lv_istore (lv' := [(4, .int (nI 1)), (6, .int (nI 1)), (5, .int (nI i)), (0, .ref h0), (1, .int (nI f)), (2, .int (nI k)), (3, .int ch)]) hx hb d_M_isMember_93 hl (by decide) rfl (fun ls hl => ?_)
              refine lv_iload hx hb d_M_isMember_95 (lv_at hl 2 rfl) ?_
              refine lv_iload hx hb d_M_isMember_97 (lv_at hl 1 rfl) ?_
              refine lv_if_eq (tgt := 106) hx hb d_M_isMember_99 (by decide) (fun c_27 => ?_) (fun c_27 => ?_)
              · exact absurd c_27 (by decide)
              · clear c_27
                refine lv_iconst (v := nI 3) hx hb d_M_isMember_102 (by decide) ?_
                refine lv_goto (tgt := 107) hx hb d_M_isMember_103 (by decide) ?_
                refine lv_iadd hx hb d_M_isMember_107 ?_
                refine lv_topi (fun v_28 ev_28 => ?_)
                obtain rfl : v_28 = nI (i + 3) := ev_28.trans (nI_add _ _)
                refine lv_istore (lv' := [(5, .int (nI (i + 3))), (4, .int (nI 1)), (6, .int (nI 1)), (0, .ref h0), (1, .int (nI f)), (2, .int (nI k)), (3, .int ch)]) hx hb d_M_isMember_108 hl (by decide) rfl (fun ls hl => ?_)
                refine lv_goto (tgt := 6) hx hb d_M_isMember_110 (by decide) ?_
                exact ih (i + 3) true (by omega) (by omega) (by rw [← hE]; first | (rw [‹rr = true›]; rfl) | (rw [mb_rg (a := i) (by omega) (by omega) ‹_›, (by first | exact nh3 ‹_› ‹_› | exact nh4 ‹_› : (decide (pt i ≤ ch) && decide (ch ≤ pt (i + 2))) = true)]; simp)) ls (lv_sub hl [1, 0, 3, 4, 5, 6] rfl)
            · have c_26 := bI_z.mp c_26
              refine lv_iload hx hb d_M_isMember_45 (lv_at hl 0 rfl) ?_
              refine lv_if_eq (tgt := 77) hx hb d_M_isMember_47 (by decide) (fun c_29 => ?_) (fun c_29 => ?_)
              · exact absurd c_29 (by decide)
              · clear c_29
                refine lv_iload_n hx hb d_M_isMember_50 rfl (lv_at hl 6 rfl) ?_
                refine lv_aload_n hx hb d_M_isMember_51 rfl (lv_at hl 3 rfl) ?_
                refine va_get (D := (dC, dI)) (ci := 1) (v := .ref a2) (C := R_M) (T := F_M) (N := 8) hx hb htB in_M hown hK hP 0 rfl rfl 2 (by decide) (htB _ hfl_M_13) (fun _ h9 => h9) rfl d_M_isMember_52 ?_
                refine lv_iload hx hb d_M_isMember_55 (lv_at hl 2 rfl) ?_
                refine va_iald hx hb hK hP 2 0 rfl rfl (vp_in_nI (n := i) (by omega) (by decide)) d_M_isMember_57 ?_
                refine lv_topi (fun v_30 ev_30 => ?_)
                obtain rfl : v_30 = pt i := ev_30.trans (by rw [nI_clamp (n := i) (by omega)])
                refine lv_icmp_lt (tgt := 92) hx hb d_M_isMember_58 (by decide) (fun c_31 => ?_) (fun c_31 => ?_)
                · refine lv_iconst (v := nI 0) hx hb d_M_isMember_92 (by decide) ?_
                  refine lv_istore (lv' := [(4, .int (nI 0)), (6, .int (nI 1)), (5, .int (nI i)), (0, .ref h0), (1, .int (nI f)), (2, .int (nI k)), (3, .int ch)]) hx hb d_M_isMember_93 hl (by decide) rfl (fun ls hl => ?_)
                  refine lv_iload hx hb d_M_isMember_95 (lv_at hl 2 rfl) ?_
                  refine lv_iload hx hb d_M_isMember_97 (lv_at hl 1 rfl) ?_
                  refine lv_if_eq (tgt := 106) hx hb d_M_isMember_99 (by decide) (fun c_32 => ?_) (fun c_32 => ?_)
                  · exact absurd c_32 (by decide)
                  · clear c_32
                    refine lv_iconst (v := nI 3) hx hb d_M_isMember_102 (by decide) ?_
                    refine lv_goto (tgt := 107) hx hb d_M_isMember_103 (by decide) ?_
                    refine lv_iadd hx hb d_M_isMember_107 ?_
                    refine lv_topi (fun v_33 ev_33 => ?_)
                    obtain rfl : v_33 = nI (i + 3) := ev_33.trans (nI_add _ _)
                    refine lv_istore (lv' := [(5, .int (nI (i + 3))), (4, .int (nI 0)), (6, .int (nI 1)), (0, .ref h0), (1, .int (nI f)), (2, .int (nI k)), (3, .int ch)]) hx hb d_M_isMember_108 hl (by decide) rfl (fun ls hl => ?_)
                    refine lv_goto (tgt := 6) hx hb d_M_isMember_110 (by decide) ?_
                    exact ih (i + 3) false (by omega) (by omega) (by rw [← hE, ‹rr = false›, mb_rg (a := i) (by omega) (by omega) ‹_›, (by first | exact nh1 ‹_› | exact nh2 ‹_› | exact nh5 ‹_› : (decide (pt i ≤ ch) && decide (ch ≤ pt (i + 2))) = false)]; rfl) ls (lv_sub hl [1, 0, 3, 4, 5, 6] rfl)
                · refine lv_iload_n hx hb d_M_isMember_61 rfl (lv_at hl 6 rfl) ?_
                  refine lv_aload_n hx hb d_M_isMember_62 rfl (lv_at hl 3 rfl) ?_
                  refine va_get (D := (dC, dI)) (ci := 1) (v := .ref a2) (C := R_M) (T := F_M) (N := 8) hx hb htB in_M hown hK hP 0 rfl rfl 2 (by decide) (htB _ hfl_M_13) (fun _ h9 => h9) rfl d_M_isMember_63 ?_
                  refine lv_iload hx hb d_M_isMember_66 (lv_at hl 2 rfl) ?_
                  refine lv_iconst (v := nI 2) hx hb d_M_isMember_68 (by decide) ?_
                  refine lv_iadd hx hb d_M_isMember_69 ?_
                  refine lv_topi (fun v_34 ev_34 => ?_)
                  obtain rfl : v_34 = nI (i + 2) := ev_34.trans (nI_add _ _)
                  refine va_iald hx hb hK hP 2 0 rfl rfl (vp_in_nI (n := i + 2) (by omega) (by decide)) d_M_isMember_70 ?_
                  refine lv_topi (fun v_35 ev_35 => ?_)
                  obtain rfl : v_35 = pt (i + 2) := ev_35.trans (by rw [nI_clamp (n := i + 2) (by omega)])
                  refine lv_icmp_gt (tgt := 92) hx hb d_M_isMember_71 (by decide) (fun c_36 => ?_) (fun c_36 => ?_)
                  · refine lv_iconst (v := nI 0) hx hb d_M_isMember_92 (by decide) ?_
                    refine lv_istore (lv' := [(4, .int (nI 0)), (6, .int (nI 1)), (5, .int (nI i)), (0, .ref h0), (1, .int (nI f)), (2, .int (nI k)), (3, .int ch)]) hx hb d_M_isMember_93 hl (by decide) rfl (fun ls hl => ?_)
                    refine lv_iload hx hb d_M_isMember_95 (lv_at hl 2 rfl) ?_
                    refine lv_iload hx hb d_M_isMember_97 (lv_at hl 1 rfl) ?_
                    refine lv_if_eq (tgt := 106) hx hb d_M_isMember_99 (by decide) (fun c_37 => ?_) (fun c_37 => ?_)
                    · exact absurd c_37 (by decide)
                    · clear c_37
                      refine lv_iconst (v := nI 3) hx hb d_M_isMember_102 (by decide) ?_
                      refine lv_goto (tgt := 107) hx hb d_M_isMember_103 (by decide) ?_
                      refine lv_iadd hx hb d_M_isMember_107 ?_
                      refine lv_topi (fun v_38 ev_38 => ?_)
                      obtain rfl : v_38 = nI (i + 3) := ev_38.trans (nI_add _ _)
                      refine lv_istore (lv' := [(5, .int (nI (i + 3))), (4, .int (nI 0)), (6, .int (nI 1)), (0, .ref h0), (1, .int (nI f)), (2, .int (nI k)), (3, .int ch)]) hx hb d_M_isMember_108 hl (by decide) rfl (fun ls hl => ?_)
                      refine lv_goto (tgt := 6) hx hb d_M_isMember_110 (by decide) ?_
                      exact ih (i + 3) false (by omega) (by omega) (by rw [← hE, ‹rr = false›, mb_rg (a := i) (by omega) (by omega) ‹_›, (by first | exact nh1 ‹_› | exact nh2 ‹_› | exact nh5 ‹_› : (decide (pt i ≤ ch) && decide (ch ≤ pt (i + 2))) = false)]; rfl) ls (lv_sub hl [1, 0, 3, 4, 5, 6] rfl)
                  · refine lv_goto (tgt := 88) hx hb d_M_isMember_74 (by decide) ?_
                    refine lv_iconst (v := nI 1) hx hb d_M_isMember_88 (by decide) ?_
                    refine lv_goto (tgt := 93) hx hb d_M_isMember_89 (by decide) ?_
                    refine lv_istore (lv' := [(4, .int (nI 1)), (6, .int (nI 1)), (5, .int (nI i)), (0, .ref h0), (1, .int (nI f)), (2, .int (nI k)), (3, .int ch)]) hx hb d_M_isMember_93 hl (by decide) rfl (fun ls hl => ?_)
                    refine lv_iload hx hb d_M_isMember_95 (lv_at hl 2 rfl) ?_
                    refine lv_iload hx hb d_M_isMember_97 (lv_at hl 1 rfl) ?_
                    refine lv_if_eq (tgt := 106) hx hb d_M_isMember_99 (by decide) (fun c_39 => ?_) (fun c_39 => ?_)
                    · exact absurd c_39 (by decide)
                    · clear c_39
                      refine lv_iconst (v := nI 3) hx hb d_M_isMember_102 (by decide) ?_
                      refine lv_goto (tgt := 107) hx hb d_M_isMember_103 (by decide) ?_
                      refine lv_iadd hx hb d_M_isMember_107 ?_
                      refine lv_topi (fun v_40 ev_40 => ?_)
                      obtain rfl : v_40 = nI (i + 3) := ev_40.trans (nI_add _ _)
                      refine lv_istore (lv' := [(5, .int (nI (i + 3))), (4, .int (nI 1)), (6, .int (nI 1)), (0, .ref h0), (1, .int (nI f)), (2, .int (nI k)), (3, .int ch)]) hx hb d_M_isMember_108 hl (by decide) rfl (fun ls hl => ?_)
                      refine lv_goto (tgt := 6) hx hb d_M_isMember_110 (by decide) ?_
                      exact ih (i + 3) true (by omega) (by omega) (by rw [← hE]; first | (rw [‹rr = true›]; rfl) | (rw [mb_rg (a := i) (by omega) (by omega) ‹_›, (by first | exact nh3 ‹_› ‹_› | exact nh4 ‹_› : (decide (pt i ≤ ch) && decide (ch ≤ pt (i + 2))) = true)]; simp)) ls (lv_sub hl [1, 0, 3, 4, 5, 6] rfl)
  refine lv_iconst (v := nI 0) hx hb d_M_isMember_0 (by decide) ?_
  refine lv_istore (lv' := [(4, .int (nI 0)), (0, .ref h0), (1, .int (nI f)), (2, .int (nI k)), (3, .int ch)]) hx hb d_M_isMember_1 hl (by decide) rfl (fun ls hl => ?_)
  refine lv_iload_n hx hb d_M_isMember_3 rfl (lv_at hl 2 rfl) ?_
  refine lv_istore (lv' := [(5, .int (nI f)), (4, .int (nI 0)), (0, .ref h0), (1, .int (nI f)), (2, .int (nI k)), (3, .int ch)]) hx hb d_M_isMember_4 hl (by decide) rfl (fun ls hl => ?_)
  exact loop 1001 f false (by omega) (by omega) rfl ls (lv_sub hl [1, 0, 2, 3, 4, 5] rfl)

theorem r_M_isMember {p : Program} {l : Launch} {e : Env} {R : Room} {s : State} {mm : MethodId} {args : Array Value} {below : List Frame} {meth : Method} {c : Code} {H : Heap} {locs : List Loc} {cells slots : Nat} {Q : State → Prop} {cc : ByteArray} {pcn nL : Nat} {ls : Array Slot} {rest : List Value} {dC : Nat → ClassId} {dI : Nat → Nat → Nat} {h0 a1 a2 a3 a4 a5 : Nat} {cI cZ : ClassId} {cd : Int32} {tx pt qt ar nr : Nat → Int32} {tn pn : Nat} (hp : pn ≤ 200) {f k : Nat} (hf : f ≤ 500) (hk : k ≤ 200) {ch : Int32} (hx : p.tables.exec = Jvm.exec) (hb : c.code = cc) (hml : c.maxLocals = nL) (hown : s.vm.findClass R_M = some mm.cls) (htB : ∀ w ∈ wB, w.before args s = true) (hK : va_K (dC, dI) classes (tyIZ cI cZ) s) (hP : va_P (dC, dI) classes (wM h0 a1 a2 a3 a4 a5 cI cZ cd tx pt qt ar nr tn pn) H) (hls : ls.size = nL) (hre : (rest.map fun v => v.category).sum ≤ 8) (hR : 1 + 1 ≤ R.frames ∧ 8 + (7 + 11) + 22 ≤ R.locals) (hce : cells ≤ R.cells ∧ slots ≤ R.slots) (hd : decode cc pcn = .ok (.invokevirtual 42, 3)) (kk : W p l e R s mm args below meth c H locs cells slots Q (F0 mm (pcn + 3) ls (.int (bI (mb pt qt pn k ch (k + 1 - f) f)) :: rest))) : W p l e R s mm args below meth c H locs cells slots Q (F0 mm pcn ls (.int ch :: .int (nI k) :: .int (nI f) :: .ref h0 :: rest)) := by
  refine vp_callSi (va_Run.run (va_runV (As := [.int (nI f), .int (nI k), .int ch]) (rest := rest) ⟨hx, hb, hml, hown, htB⟩ (c_M_isMember l dC dI h0 a1 a2 a3 a4 a5 cI cZ cd tx pt qt ar nr tn pn hp f k hf hk ch) (cwV 3 htB (gV hml_M_42 hinm_M_isMember hsel_M_isMember hini_M hco_M_isMember) rfl rfl rfl (by decide +kernel) hR) ⟨fun a U g mk q => by obtain ⟨q0, qP, qK⟩ := q; exact ⟨q0, qP, va_K.moved (u := U) (U := U.calling g mk a) (Vm.Alike.refl U.vm) qK⟩, va_recv hK hP (ci := 1) (q0 := 0) rfl rfl, fun U hU hW => ⟨rfl, by rw [hU]; exact hP, va_K.moved hW.alike hK⟩⟩ rfl rfl hls rfl (lv_room hre) hd ⟨hce.1, hce.2⟩)) (fun r hr => ?_)
  rw [hr]; exact kk

set_option maxHeartbeats 4000000 in
set_option maxRecDepth 100000 in
theorem c_M_takes (l : Launch) (dC : Nat → ClassId) (dI : Nat → Nat → Nat) (h0 a1 a2 a3 a4 a5 : Nat) (cI cZ : ClassId) (cd : Int32) (tx pt qt ar nr : Nat → Int32) (tn pn : Nat) (hp : pn ≤ 200) (a : Nat) (ha : a < pn) (o : Option Nat) (ho : ∀ k, o = some k → fm pt qt pn a ≤ k ∧ k < pn) (ch : Int32) : Met l y_M_takes (.code y_M_takes b_M_takes 5 (some .boolean) :: wB) (Rm 2 48) (va_Pc [.ref h0, .int (nI a), .int (oI o), .int ch] (fun U => va_P (dC, dI) classes (wM h0 a1 a2 a3 a4 a5 cI cZ cd tx pt qt ar nr tn pn) U.heap ∧ va_K (dC, dI) classes (tyIZ cI cZ) U)) (vp_Si (fun r => r = bI (ft pt qt pn a o ch))) 0 0 (fun _ => False) := by
  refine Met.ofW (cc := b_M_takes) (maxL := 5) (ret := (some .boolean)) (by decide) rfl ?_
  intro p e s mm args below meth c s₁ B hml hv
  obtain ⟨rfl, hP, hK⟩ := hv
  have hx := B.exec
  have hb := B.bytes
  have hr := B.returns
  have hts := atoms_spec (ws := (.code y_M_takes b_M_takes 5 (some .boolean) :: wB)) B.pre
  have htB : ∀ w ∈ wB, w.before _ s = true := fun w h => hts w (List.mem_cons_of_mem _ h)
  have hown : s.vm.findClass R_M = some mm.cls := findClass_of_methodNamed B.named
  have hlocks := B.notSynchronized
  have hl := lv_entry ([.ref h0, .int (nI a), .int (oI o), .int ch]) (n := 5) (Nat.le_of_ble_eq_true rfl)
  rw [lg_entry_eq]
  generalize (lg_sl ([.ref h0, .int (nI a), .int (oI o), .int ch]) ++ List.replicate (5 - (lg_sl ([.ref h0, .int (nI a), .int (oI o), .int ch])).length) Slot.unset).toArray = ls at hl ⊢
  have hl : lv_has ls 5 [(0, .ref h0), (1, .int (nI a)), (2, .int (oI o)), (3, .int ch)] := hl
  refine lv_iload_n hx hb d_M_takes_0 rfl (lv_at hl 2 rfl) ?_
  refine lv_iconst (v := -1) hx hb d_M_takes_1 (by decide) ?_
  refine lv_icmp_eq (tgt := 47) hx hb d_M_takes_2 (by decide) (fun c_1 => ?_) (fun c_1 => ?_)
  · obtain rfl : o = none := (oI_m1 (fun k q => by have := ho k q; omega)).mp c_1
    refine lv_aload_n hx hb d_M_takes_47 rfl (lv_at hl 0 rfl) ?_
    refine lv_iload_n hx hb d_M_takes_48 rfl (lv_at hl 1 rfl) ?_
    refine lv_bipush (v := nI 63) hx hb d_M_takes_49 (by decide) ?_
    refine r_M_is hp (by omega) hx hb hml hown htB hK hP hl.1 (Nat.le_of_ble_eq_true rfl) ⟨Nat.le_of_ble_eq_true rfl, Nat.le_of_ble_eq_true rfl⟩ ⟨Nat.zero_le _, Nat.zero_le _⟩ d_M_takes_51 ?_
    refine lv_if_ne (tgt := 67) hx hb d_M_takes_54 (by decide) (fun c_2 => ?_) (fun c_2 => ?_)
    · have c_2 := bI_nz.mp c_2
      refine lv_iconst (v := nI 1) hx hb d_M_takes_67 (by decide) ?_
      refine lv_goto (tgt := 72) hx hb d_M_takes_68 (by decide) ?_
      exact W.zret (v := nI 1) hx hb hr (by rfl) (fun t ht hW => ⟨_, rfl, by simp only [ft]; first | (rw [‹iu pt qt pn a (nI 63) = true›]; rfl) | (rw [decide_eq_true ‹_›, Bool.or_true]; rfl) | (rw [‹iu pt qt pn a (nI 63) = false›, decide_eq_false ‹_›]; rfl), ht⟩) (fun q h => nomatch h) d_M_takes_72
    · have c_2 := bI_z.mp c_2
      refine lv_aload_n hx hb d_M_takes_57 rfl (lv_at hl 0 rfl) ?_
      refine va_get (D := (dC, dI)) (ci := 1) (v := .ref a2) (C := R_M) (T := F_M) (N := 8) hx hb htB in_M hown hK hP 0 rfl rfl 2 (by decide) (htB _ hfl_M_13) (fun _ h9 => h9) rfl d_M_takes_58 ?_
      refine lv_iload_n hx hb d_M_takes_61 rfl (lv_at hl 1 rfl) ?_
      refine va_iald hx hb hK hP 2 0 rfl rfl (vp_in_nI (n := a) (by omega) (by decide)) d_M_takes_62 ?_
      refine lv_topi (fun v_3 ev_3 => ?_)
      obtain rfl : v_3 = pt a := ev_3.trans (by rw [nI_clamp (n := a) (by omega)])
      refine lv_iload_n hx hb d_M_takes_63 rfl (lv_at hl 3 rfl) ?_
      refine lv_icmp_ne (tgt := 71) hx hb d_M_takes_64 (by decide) (fun c_4 => ?_) (fun c_4 => ?_)
      · refine lv_iconst (v := nI 0) hx hb d_M_takes_71 (by decide) ?_
        exact W.zret (v := nI 0) hx hb hr (by rfl) (fun t ht hW => ⟨_, rfl, by simp only [ft]; first | (rw [‹iu pt qt pn a (nI 63) = true›]; rfl) | (rw [decide_eq_true ‹_›, Bool.or_true]; rfl) | (rw [‹iu pt qt pn a (nI 63) = false›, decide_eq_false ‹_›]; rfl), ht⟩) (fun q h => nomatch h) d_M_takes_72
      · refine lv_iconst (v := nI 1) hx hb d_M_takes_67 (by decide) ?_
        refine lv_goto (tgt := 72) hx hb d_M_takes_68 (by decide) ?_
        exact W.zret (v := nI 1) hx hb hr (by rfl) (fun t ht hW => ⟨_, rfl, by simp only [ft]; first | (rw [‹iu pt qt pn a (nI 63) = true›]; rfl) | (rw [decide_eq_true ‹_›, Bool.or_true]; rfl) | (rw [‹iu pt qt pn a (nI 63) = false›, decide_eq_false ‹_›]; rfl), ht⟩) (fun q h => nomatch h) d_M_takes_72
  · obtain ⟨k, rfl⟩ : ∃ k, o = some k := by
      cases o with
      | none => exact absurd rfl c_1
      | some k => exact ⟨k, rfl⟩
    have hk := ho k rfl
    have hfl := fm_le pt qt pn a
    have hl : lv_has ls 5 [(0, .ref h0), (1, .int (nI a)), (2, .int (nI k)), (3, .int ch)] := hl
    refine lv_aload_n hx hb d_M_takes_5 rfl (lv_at hl 0 rfl) ?_
    refine lv_iload_n hx hb d_M_takes_6 rfl (lv_at hl 1 rfl) ?_
    refine lv_iconst (v := nI 1) hx hb d_M_takes_7 (by decide) ?_
    refine lv_iadd hx hb d_M_takes_8 ?_
    refine lv_topi (fun v_5 ev_5 => ?_)
    obtain rfl : v_5 = nI (a + 1) := ev_5.trans (nI_add _ _)
    refine lv_bipush (v := nI 33) hx hb d_M_takes_9 (by decide) ?_
    refine r_M_is hp (by omega) hx hb hml hown htB hK hP hl.1 (Nat.le_of_ble_eq_true rfl) ⟨Nat.le_of_ble_eq_true rfl, Nat.le_of_ble_eq_true rfl⟩ ⟨Nat.zero_le _, Nat.zero_le _⟩ d_M_takes_11 ?_
    refine lv_istore (lv' := [(4, .int (bI (iu pt qt pn (a + 1) (nI 33)))), (0, .ref h0), (1, .int (nI a)), (2, .int (nI k)), (3, .int ch)]) hx hb d_M_takes_14 hl (by decide) rfl (fun ls hl => ?_)
    refine lv_aload_n hx hb d_M_takes_16 rfl (lv_at hl 1 rfl) ?_
    refine lv_iload hx hb d_M_takes_17 (lv_at hl 0 rfl) ?_
    refine lv_if_eq (tgt := 28) hx hb d_M_takes_19 (by decide) (fun c_6 => ?_) (fun c_6 => ?_)
    · have c_6 := bI_z.mp c_6
      refine lv_iload_n hx hb d_M_takes_28 rfl (lv_at hl 2 rfl) ?_
      refine lv_iconst (v := nI 1) hx hb d_M_takes_29 (by decide) ?_
      refine lv_iadd hx hb d_M_takes_30 ?_
      refine lv_topi (fun v_7 ev_7 => ?_)
      obtain rfl : v_7 = nI (a + 1) := ev_7.trans (nI_add _ _)
      refine lv_iload_n hx hb d_M_takes_31 rfl (lv_at hl 3 rfl) ?_
      refine lv_iload_n hx hb d_M_takes_32 rfl (lv_at hl 4 rfl) ?_
      refine r_M_isMember hp (by omega) (by omega) hx hb hml hown htB hK hP hl.1 (Nat.le_of_ble_eq_true rfl) ⟨Nat.le_of_ble_eq_true rfl, Nat.le_of_ble_eq_true rfl⟩ ⟨Nat.zero_le _, Nat.zero_le _⟩ d_M_takes_33 ?_
      refine lv_iload hx hb d_M_takes_36 (lv_at hl 0 rfl) ?_
      refine lv_icmp_eq (tgt := 45) hx hb d_M_takes_38 (by decide) (fun c_8 => ?_) (fun c_8 => ?_)
      · refine lv_iconst (v := nI 0) hx hb d_M_takes_45 (by decide) ?_
        exact W.zret (v := nI 0) hx hb hr (by rfl) (fun t ht hW => ⟨_, rfl, by simp only [ft, fm]; (first | rw [if_pos ‹iu pt qt pn (a + 1) (nI 33) = true›] | rw [if_neg (show ¬ iu pt qt pn (a + 1) (nI 33) = true by rw [‹iu pt qt pn (a + 1) (nI 33) = false›]; decide)]); (first | exact bne_e ‹_› | exact bne_n ‹_›), ht⟩) (fun q h => nomatch h) d_M_takes_46
      · refine lv_iconst (v := nI 1) hx hb d_M_takes_41 (by decide) ?_
        refine lv_goto (tgt := 46) hx hb d_M_takes_42 (by decide) ?_
        exact W.zret (v := nI 1) hx hb hr (by rfl) (fun t ht hW => ⟨_, rfl, by simp only [ft, fm]; (first | rw [if_pos ‹iu pt qt pn (a + 1) (nI 33) = true›] | rw [if_neg (show ¬ iu pt qt pn (a + 1) (nI 33) = true by rw [‹iu pt qt pn (a + 1) (nI 33) = false›]; decide)]); (first | exact bne_e ‹_› | exact bne_n ‹_›), ht⟩) (fun q h => nomatch h) d_M_takes_46
    · have c_6 := bI_nz.mp c_6
      refine lv_iload_n hx hb d_M_takes_22 rfl (lv_at hl 2 rfl) ?_
      refine lv_iconst (v := nI 2) hx hb d_M_takes_23 (by decide) ?_
      refine lv_iadd hx hb d_M_takes_24 ?_
      refine lv_topi (fun v_9 ev_9 => ?_)
      obtain rfl : v_9 = nI (a + 2) := ev_9.trans (nI_add _ _)
      refine lv_goto (tgt := 31) hx hb d_M_takes_25 (by decide) ?_
      refine lv_iload_n hx hb d_M_takes_31 rfl (lv_at hl 3 rfl) ?_
      refine lv_iload_n hx hb d_M_takes_32 rfl (lv_at hl 4 rfl) ?_
      refine r_M_isMember hp (by omega) (by omega) hx hb hml hown htB hK hP hl.1 (Nat.le_of_ble_eq_true rfl) ⟨Nat.le_of_ble_eq_true rfl, Nat.le_of_ble_eq_true rfl⟩ ⟨Nat.zero_le _, Nat.zero_le _⟩ d_M_takes_33 ?_
      refine lv_iload hx hb d_M_takes_36 (lv_at hl 0 rfl) ?_
      refine lv_icmp_eq (tgt := 45) hx hb d_M_takes_38 (by decide) (fun c_10 => ?_) (fun c_10 => ?_)
      · refine lv_iconst (v := nI 0) hx hb d_M_takes_45 (by decide) ?_
        exact W.zret (v := nI 0) hx hb hr (by rfl) (fun t ht hW => ⟨_, rfl, by simp only [ft, fm]; (first | rw [if_pos ‹iu pt qt pn (a + 1) (nI 33) = true›] | rw [if_neg (show ¬ iu pt qt pn (a + 1) (nI 33) = true by rw [‹iu pt qt pn (a + 1) (nI 33) = false›]; decide)]); (first | exact bne_e ‹_› | exact bne_n ‹_›), ht⟩) (fun q h => nomatch h) d_M_takes_46
      · refine lv_iconst (v := nI 1) hx hb d_M_takes_41 (by decide) ?_
        refine lv_goto (tgt := 46) hx hb d_M_takes_42 (by decide) ?_
        exact W.zret (v := nI 1) hx hb hr (by rfl) (fun t ht hW => ⟨_, rfl, by simp only [ft, fm]; (first | rw [if_pos ‹iu pt qt pn (a + 1) (nI 33) = true›] | rw [if_neg (show ¬ iu pt qt pn (a + 1) (nI 33) = true by rw [‹iu pt qt pn (a + 1) (nI 33) = false›]; decide)]); (first | exact bne_e ‹_› | exact bne_n ‹_›), ht⟩) (fun q h => nomatch h) d_M_takes_46

theorem r_M_takes {p : Program} {l : Launch} {e : Env} {R : Room} {s : State} {mm : MethodId} {args : Array Value} {below : List Frame} {meth : Method} {c : Code} {H : Heap} {locs : List Loc} {cells slots : Nat} {Q : State → Prop} {cc : ByteArray} {pcn nL : Nat} {ls : Array Slot} {rest : List Value} {dC : Nat → ClassId} {dI : Nat → Nat → Nat} {h0 a1 a2 a3 a4 a5 : Nat} {cI cZ : ClassId} {cd : Int32} {tx pt qt ar nr : Nat → Int32} {tn pn : Nat} (hp : pn ≤ 200) {a : Nat} (ha : a < pn) {o : Option Nat} (ho : ∀ k, o = some k → fm pt qt pn a ≤ k ∧ k < pn) {ch : Int32} (hx : p.tables.exec = Jvm.exec) (hb : c.code = cc) (hml : c.maxLocals = nL) (hown : s.vm.findClass R_M = some mm.cls) (htB : ∀ w ∈ wB, w.before args s = true) (hK : va_K (dC, dI) classes (tyIZ cI cZ) s) (hP : va_P (dC, dI) classes (wM h0 a1 a2 a3 a4 a5 cI cZ cd tx pt qt ar nr tn pn) H) (hls : ls.size = nL) (hre : (rest.map fun v => v.category).sum ≤ 8) (hR : 2 + 1 ≤ R.frames ∧ 8 + (5 + 11) + 48 ≤ R.locals) (hce : cells ≤ R.cells ∧ slots ≤ R.slots) (hd : decode cc pcn = .ok (.invokevirtual 50, 3)) (kk : W p l e R s mm args below meth c H locs cells slots Q (F0 mm (pcn + 3) ls (.int (bI (ft pt qt pn a o ch)) :: rest))) : W p l e R s mm args below meth c H locs cells slots Q (F0 mm pcn ls (.int ch :: .int (oI o) :: .int (nI a) :: .ref h0 :: rest)) := by
  refine vp_callSi (va_Run.run (va_runV (As := [.int (nI a), .int (oI o), .int ch]) (rest := rest) ⟨hx, hb, hml, hown, htB⟩ (c_M_takes l dC dI h0 a1 a2 a3 a4 a5 cI cZ cd tx pt qt ar nr tn pn hp a ha o ho ch) (cwV 3 htB (gV hml_M_50 hinm_M_takes hsel_M_takes hini_M hco_M_takes) rfl rfl rfl (by decide +kernel) hR) ⟨fun a U g mk q => by obtain ⟨q0, qP, qK⟩ := q; exact ⟨q0, qP, va_K.moved (u := U) (U := U.calling g mk a) (Vm.Alike.refl U.vm) qK⟩, va_recv hK hP (ci := 1) (q0 := 0) rfl rfl, fun U hU hW => ⟨rfl, by rw [hU]; exact hP, va_K.moved hW.alike hK⟩⟩ rfl rfl hls rfl (lv_room hre) hd ⟨hce.1, hce.2⟩)) (fun r hr => ?_)
  rw [hr]; exact kk

set_option maxHeartbeats 4000000 in
set_option maxRecDepth 100000 in
theorem c_M_thrown (l : Launch) (dC : Nat → ClassId) (dI : Nat → Nat → Nat) (h0 a1 a2 a3 a4 a5 : Nat) (cI cZ : ClassId) (cd : Int32) (tx pt qt ar nr : Nat → Int32) (tn pn : Nat)  : Met l y_M_thrown (.code y_M_thrown b_M_thrown 1 (some .int) :: wB) (Rm 0 0) (va_Pc [.ref h0] (fun U => va_P (dC, dI) classes (wM h0 a1 a2 a3 a4 a5 cI cZ cd tx pt qt ar nr tn pn) U.heap ∧ va_K (dC, dI) classes (tyIZ cI cZ) U)) (vp_Si (fun r => r = cd)) 0 0 (fun _ => False) := by
  refine Met.ofW (cc := b_M_thrown) (maxL := 1) (ret := (some .int)) (by decide) rfl ?_
  intro p e s mm args below meth c s₁ B hml hv
  obtain ⟨rfl, hP, hK⟩ := hv
  have hx := B.exec
  have hb := B.bytes
  have hr := B.returns
  have hts := atoms_spec (ws := (.code y_M_thrown b_M_thrown 1 (some .int) :: wB)) B.pre
  have htB : ∀ w ∈ wB, w.before _ s = true := fun w h => hts w (List.mem_cons_of_mem _ h)
  have hown : s.vm.findClass R_M = some mm.cls := findClass_of_methodNamed B.named
  have hlocks := B.notSynchronized
  have hl := lv_entry ([.ref h0]) (n := 1) (Nat.le_of_ble_eq_true rfl)
  rw [lg_entry_eq]
  generalize (lg_sl ([.ref h0]) ++ List.replicate (1 - (lg_sl ([.ref h0])).length) Slot.unset).toArray = ls at hl ⊢
  have hl : lv_has ls 1 [(0, .ref h0)] := hl
  refine lv_aload_n hx hb d_M_thrown_0 rfl (lv_at hl 0 rfl) ?_
  refine va_get (D := (dC, dI)) (ci := 1) (v := .int cd) (C := R_M) (T := F_M) (N := 8) hx hb htB in_M hown hK hP 0 rfl rfl 0 (by decide) (htB _ hfl_M_26) (fun _ h9 => h9) rfl d_M_thrown_1 ?_
  exact W.iret (v := cd) hx hb hr (fun t ht hW => ⟨_, rfl, rfl, ht⟩) (fun q h => nomatch h) d_M_thrown_4
end
section
/-! the reference: go: by wip/whole/gen/gen21.py -/
set_option maxHeartbeats 4000000 in
set_option maxRecDepth 100000 in
theorem c_M_go (l : Launch) (dC : Nat → ClassId) (dI : Nat → Nat → Nat) (h0 a1 a2 a3 a4 a5 : Nat) (cI cZ : ClassId) (cd : Int32) (tx pt qt ar nr : Nat → Int32) (tn pn : Nat) (sz : Nat) (hp : pn ≤ 200) (frm too : Nat) (hft : frm ≤ too) (ht4 : too ≤ 400) : Met l y_M_go (.code y_M_go b_M_go 8 none :: wB) (Rm 3 74) (va_Pc [.ref h0, .int (nI frm), .int (nI too)] (fun U => U.heap.size = sz ∧ va_P (dC, dI) classes (wM h0 a1 a2 a3 a4 a5 cI cZ cd tx pt qt ar nr tn pn) U.heap ∧ va_K (dC, dI) classes (tyIZ cI cZ) U ∧ va_D (fun _ => True) (wM h0 a1 a2 a3 a4 a5 cI cZ cd tx pt qt ar nr tn pn))) (va_Qv (fun (u : (Nat → Int32) × (Nat → Int32)) => ∀ j, j ≤ 400 → u.1 j = bI (mM tx pt qt pn frm too j)) (fun (u : (Nat → Int32) × (Nat → Int32)) (t : State) => va_P (dC, dI) classes (wM h0 a1 a2 a3 a4 a5 cI cZ cd tx pt qt u.1 u.2 tn pn) t.heap ∧ va_K (dC, dI) classes (tyIZ cI cZ) t ∧ va_D (va_A (wM h0 a1 a2 a3 a4 a5 cI cZ cd tx pt qt ar nr tn pn) sz) (wM h0 a1 a2 a3 a4 a5 cI cZ cd tx pt qt u.1 u.2 tn pn)) (va_A (wM h0 a1 a2 a3 a4 a5 cI cZ cd tx pt qt ar nr tn pn) sz)) 0 0 (va_A (wM h0 a1 a2 a3 a4 a5 cI cZ cd tx pt qt ar nr tn pn) sz) := by
  refine Met.ofW (cc := b_M_go) (maxL := 8) (ret := none) (by decide) rfl ?_
  intro p e s mm args below meth c s₁ B hml hv
  obtain ⟨rfl, hsz, hP, hK, hD0⟩ := hv
  have hx := B.exec
  have hb := B.bytes
  have hr := B.returns
  have hts := atoms_spec (ws := (.code y_M_go b_M_go 8 none :: wB)) B.pre
  have htB : ∀ w ∈ wB, w.before _ s = true := fun w h => hts w (List.mem_cons_of_mem _ h)
  have hown : s.vm.findClass R_M = some mm.cls := findClass_of_methodNamed B.named
  have hlocks := B.notSynchronized
  subst hsz
  have hD := hD0.self (sz := s.heap.size)
  generalize hAe : va_A (wM h0 a1 a2 a3 a4 a5 cI cZ cd tx pt qt ar nr tn pn) s.heap.size = A at hD ⊢
  have hA : ∀ q : Nat, s.heap.size ≤ q → A q := fun q h => by rw [← hAe]; exact Or.inr h
  have hS : va_S A s.heap s.heap [] := va_S.rf
  have hP : va_P (dC, dI) classes (wM h0 a1 a2 a3 a4 a5 cI cZ cd tx pt qt ar nr tn pn) s.heap := hP
  have hl := lv_entry ([.ref h0, .int (nI frm), .int (nI too)]) (n := 8) (Nat.le_of_ble_eq_true rfl)
  rw [lg_entry_eq]
  generalize (lg_sl ([.ref h0, .int (nI frm), .int (nI too)]) ++ List.replicate (8 - (lg_sl ([.ref h0, .int (nI frm), .int (nI too)])).length) Slot.unset).toArray = ls at hl ⊢
  have hl : lv_has ls 8 [(0, .ref h0), (1, .int (nI frm)), (2, .int (nI too))] := hl
  have L2 : ∀ (n1 i : Nat) (av : Nat → Int32) (H : Heap) (locs : List Loc), i ≤ 1000 → 1000 < i + n1 → (∀ j, j < i → j ≤ 400 → av j = bI (fB frm j)) → va_P (dC, dI) classes (wM h0 a1 a2 a3 a4 a5 cI cZ cd tx pt qt av nr tn pn) H → va_D A (wM h0 a1 a2 a3 a4 a5 cI cZ cd tx pt qt av nr tn pn) → va_S A s.heap H locs → ∀ ls : Array Slot, lv_has ls 8 [(3, .int (nI i)), (0, .ref h0), (1, .int (nI frm)), (2, .int (nI too))] → W p l e (Rm 3 74) s mm [.ref h0, .int (nI frm), .int (nI too)].toArray below meth c H locs 0 0 (MQ below (va_Qv (fun (u : (Nat → Int32) × (Nat → Int32)) => ∀ j, j ≤ 400 → u.1 j = bI (mM tx pt qt pn frm too j)) (fun (u : (Nat → Int32) × (Nat → Int32)) (t : State) => va_P (dC, dI) classes (wM h0 a1 a2 a3 a4 a5 cI cZ cd tx pt qt u.1 u.2 tn pn) t.heap ∧ va_K (dC, dI) classes (tyIZ cI cZ) t ∧ va_D A (wM h0 a1 a2 a3 a4 a5 cI cZ cd tx pt qt u.1 u.2 tn pn)) A) [.ref h0, .int (nI frm), .int (nI too)].toArray s 0 0 A) (F0 mm 2 ls []) := by
    intro n1
    induction n1 with
    | zero => intro i av H locs h1 h2; exact absurd h2 (by omega)
    | succ n1 ih1 =>
      intro i av H locs hi hn1 hE1 hP hD hS ls hl
      refine lv_iload_n hx hb d_M_go_2 rfl (lv_at hl 0 rfl) ?_
      refine lv_sipush (v := nI 400) hx hb d_M_go_3 (by decide) ?_
      refine lv_icmp_gt (tgt := 31) hx hb d_M_go_6 (by decide) (fun c_1 => ?_) (fun c_1 => ?_)
      · have c_1 := (nI_ltI (by omega) (by omega)).mp c_1
        refine lv_iconst (v := nI 0) hx hb d_M_go_31 (by decide) ?_
        refine lv_istore_n (lv' := [(3, .int (nI 0)), (0, .ref h0), (1, .int (nI frm)), (2, .int (nI too))]) hx hb d_M_go_32 rfl hl (by decide) rfl (fun ls hl => ?_)
        have L33 : ∀ (n a : Nat) (F : Nat → Bool) (av nw0 : Nat → Int32) (H : Heap) (locs : List Loc), a ≤ pn → pn < a + n → rdB tx pt qt pn frm too (pn - a) a F = mM tx pt qt pn frm too → (∀ j, j ≤ 400 → av j = bI (F j)) → va_P (dC, dI) classes (wM h0 a1 a2 a3 a4 a5 cI cZ cd tx pt qt av nw0 tn pn) H → va_D A (wM h0 a1 a2 a3 a4 a5 cI cZ cd tx pt qt av nw0 tn pn) → va_S A s.heap H locs → ∀ ls : Array Slot, lv_has ls 8 [(3, .int (nI a)), (0, .ref h0), (1, .int (nI frm)), (2, .int (nI too))] → W p l e (Rm 3 74) s mm [.ref h0, .int (nI frm), .int (nI too)].toArray below meth c H locs 0 0 (MQ below (va_Qv (fun (u : (Nat → Int32) × (Nat → Int32)) => ∀ j, j ≤ 400 → u.1 j = bI (mM tx pt qt pn frm too j)) (fun (u : (Nat → Int32) × (Nat → Int32)) (t : State) => va_P (dC, dI) classes (wM h0 a1 a2 a3 a4 a5 cI cZ cd tx pt qt u.1 u.2 tn pn) t.heap ∧ va_K (dC, dI) classes (tyIZ cI cZ) t ∧ va_D A (wM h0 a1 a2 a3 a4 a5 cI cZ cd tx pt qt u.1 u.2 tn pn)) A) [.ref h0, .int (nI frm), .int (nI too)].toArray s 0 0 A) (F0 mm 33 ls []) := by
          intro n
          induction n with
          | zero => intro a F av nw0 H locs h1 h2; exact absurd h2 (by omega)
          | succ n ih =>
            intro a F av nw0 H locs hap hn hE hav hP hD hS ls hl
            have hnx := nx_gt pt qt pn a
            refine lv_iload_n hx hb d_M_go_33 rfl (lv_at hl 0 rfl) ?_
            refine lv_aload_n hx hb d_M_go_34 rfl (lv_at hl 1 rfl) ?_
            refine va_get (D := (dC, dI)) (ci := 1) (v := .int (nI pn)) (C := R_M) (T := F_M) (N := 8) hx hb htB in_M hown hK hP 0 rfl rfl 5 (by decide) (htB _ hfl_M_35) (fun _ h9 => h9) rfl d_M_go_35 ?_
            refine lv_icmp_ge (tgt := 233) hx hb d_M_go_38 (by decide) (fun c_1 => ?_) (fun c_1 => ?_)
            · have c_1 := (nI_leI (by omega) (by omega)).mp c_1
              exact W.vret hx hb hr (fun t ht hW => ⟨⟨(av, nw0), rfl, fun j q => by rw [← hE, rdB_out (by omega)]; exact hav j q, by rw [ht]; exact hP, va_K.moved hW.alike hK, hD⟩, hS.F ht⟩) hS.2.2 d_M_go_233
            · have c_1 := mt (nI_leI (by omega) (by omega)).mpr c_1
              refine lv_aload_n hx hb d_M_go_41 rfl (lv_at hl 1 rfl) ?_
              refine lv_iload_n hx hb d_M_go_42 rfl (lv_at hl 0 rfl) ?_
              refine r_M_closed hp (by omega) hx hb hml hown htB hK hP hl.1 (Nat.le_of_ble_eq_true rfl) ⟨Nat.le_of_ble_eq_true rfl, Nat.le_of_ble_eq_true rfl⟩ ⟨Nat.zero_le _, Nat.zero_le _⟩ d_M_go_43 ?_
              refine lv_istore (lv' := [(4, .int (oI (cl pt qt pn a))), (3, .int (nI a)), (0, .ref h0), (1, .int (nI frm)), (2, .int (nI too))]) hx hb d_M_go_46 hl (by decide) rfl (fun ls hl => ?_)
              refine lv_aload_n hx hb d_M_go_48 rfl (lv_at hl 2 rfl) ?_
              refine lv_iload_n hx hb d_M_go_49 rfl (lv_at hl 1 rfl) ?_
              refine lv_bipush (v := nI 42) hx hb d_M_go_50 (by decide) ?_
              refine r_M_is hp (by omega) hx hb hml hown htB hK hP hl.1 (Nat.le_of_ble_eq_true rfl) ⟨Nat.le_of_ble_eq_true rfl, Nat.le_of_ble_eq_true rfl⟩ ⟨Nat.zero_le _, Nat.zero_le _⟩ d_M_go_52 ?_
              refine lv_istore (lv' := [(5, .int (bI (iu pt qt pn (a) (nI 42)))), (4, .int (oI (cl pt qt pn a))), (3, .int (nI a)), (0, .ref h0), (1, .int (nI frm)), (2, .int (nI too))]) hx hb d_M_go_55 hl (by decide) rfl (fun ls hl => ?_)
              refine lv_iconst (v := nI 0) hx hb d_M_go_57 (by decide) ?_
              refine lv_istore (lv' := [(6, .int (nI 0)), (5, .int (bI (iu pt qt pn (a) (nI 42)))), (4, .int (oI (cl pt qt pn a))), (3, .int (nI a)), (0, .ref h0), (1, .int (nI frm)), (2, .int (nI too))]) hx hb d_M_go_58 hl (by decide) rfl (fun ls hl => ?_)
              have L60 : ∀ (n2 j2 : Nat) (nw : Nat → Int32) (H : Heap) (locs : List Loc), j2 ≤ 1000 → 1000 < j2 + n2 → (∀ j, j < j2 → j ≤ 400 → nw j = bI false) → va_P (dC, dI) classes (wM h0 a1 a2 a3 a4 a5 cI cZ cd tx pt qt av nw tn pn) H → va_D A (wM h0 a1 a2 a3 a4 a5 cI cZ cd tx pt qt av nw tn pn) → va_S A s.heap H locs → ∀ ls : Array Slot, lv_has ls 8 [(6, .int (nI j2)), (3, .int (nI a)), (4, .int (oI (cl pt qt pn a))), (5, .int (bI (iu pt qt pn a (nI 42)))), (0, .ref h0), (1, .int (nI frm)), (2, .int (nI too))] → W p l e (Rm 3 74) s mm [.ref h0, .int (nI frm), .int (nI too)].toArray below meth c H locs 0 0 (MQ below (va_Qv (fun (u : (Nat → Int32) × (Nat → Int32)) => ∀ j, j ≤ 400 → u.1 j = bI (mM tx pt qt pn frm too j)) (fun (u : (Nat → Int32) × (Nat → Int32)) (t : State) => va_P (dC, dI) classes (wM h0 a1 a2 a3 a4 a5 cI cZ cd tx pt qt u.1 u.2 tn pn) t.heap ∧ va_K (dC, dI) classes (tyIZ cI cZ) t ∧ va_D A (wM h0 a1 a2 a3 a4 a5 cI cZ cd tx pt qt u.1 u.2 tn pn)) A) [.ref h0, .int (nI frm), .int (nI too)].toArray s 0 0 A) (F0 mm 60 ls []) := by
                intro n2
                induction n2 with
                | zero => intro j2 nw H locs h1 h2; exact absurd h2 (by omega)
                | succ n2 ih2 =>
                  intro j2 nw H locs hj2 hn2 hE2 hP hD hS ls hl
                  refine lv_iload hx hb d_M_go_60 (lv_at hl 0 rfl) ?_
                  refine lv_sipush (v := nI 400) hx hb d_M_go_62 (by decide) ?_
                  refine lv_icmp_gt (tgt := 82) hx hb d_M_go_65 (by decide) (fun c_1 => ?_) (fun c_1 => ?_)
                  · have c_1 := (nI_ltI (by omega) (by omega)).mp c_1
                    refine lv_iconst (v := nI 0) hx hb d_M_go_82 (by decide) ?_
                    refine lv_istore (lv' := [(6, .int (nI 0)), (3, .int (nI a)), (4, .int (oI (cl pt qt pn a))), (5, .int (bI (iu pt qt pn a (nI 42)))), (0, .ref h0), (1, .int (nI frm)), (2, .int (nI too))]) hx hb d_M_go_83 hl (by decide) rfl (fun ls hl => ?_)
                    refine lv_iload_n hx hb d_M_go_85 rfl (lv_at hl 5 rfl) ?_
                    refine lv_istore (lv' := [(7, .int (nI frm)), (6, .int (nI 0)), (3, .int (nI a)), (4, .int (oI (cl pt qt pn a))), (5, .int (bI (iu pt qt pn a (nI 42)))), (0, .ref h0), (1, .int (nI frm)), (2, .int (nI too))]) hx hb d_M_go_86 hl (by decide) rfl (fun ls hl => ?_)
                    have L88 : ∀ (n3 d : Nat) (nv : Nat → Int32) (H : Heap) (locs : List Loc), d ≤ 1000 → 1000 < d + n3 → frm + d ≤ too + 1 → (∀ j, j ≤ 400 → nv j = bI (NB tx pt qt pn frm too a F d j)) → va_P (dC, dI) classes (wM h0 a1 a2 a3 a4 a5 cI cZ cd tx pt qt av nv tn pn) H → va_D A (wM h0 a1 a2 a3 a4 a5 cI cZ cd tx pt qt av nv tn pn) → va_S A s.heap H locs → ∀ ls : Array Slot, lv_has ls 8 [(7, .int (nI (frm + d))), (6, .int (bI (sbB F frm d))), (3, .int (nI a)), (4, .int (oI (cl pt qt pn a))), (5, .int (bI (iu pt qt pn a (nI 42)))), (0, .ref h0), (1, .int (nI frm)), (2, .int (nI too))] → W p l e (Rm 3 74) s mm [.ref h0, .int (nI frm), .int (nI too)].toArray below meth c H locs 0 0 (MQ below (va_Qv (fun (u : (Nat → Int32) × (Nat → Int32)) => ∀ j, j ≤ 400 → u.1 j = bI (mM tx pt qt pn frm too j)) (fun (u : (Nat → Int32) × (Nat → Int32)) (t : State) => va_P (dC, dI) classes (wM h0 a1 a2 a3 a4 a5 cI cZ cd tx pt qt u.1 u.2 tn pn) t.heap ∧ va_K (dC, dI) classes (tyIZ cI cZ) t ∧ va_D A (wM h0 a1 a2 a3 a4 a5 cI cZ cd tx pt qt u.1 u.2 tn pn)) A) [.ref h0, .int (nI frm), .int (nI too)].toArray s 0 0 A) (F0 mm 88 ls []) := by
                      intro n3
                      induction n3 with
                      | zero => intro d nv H locs h1 h2; exact absurd h2 (by omega)
                      | succ n3 ih3 =>
                        intro d nv H locs hd3 hn3 hdt hN hP hD hS ls hl
                        refine lv_iload hx hb d_M_go_88 (lv_at hl 0 rfl) ?_
                        refine lv_iload_n hx hb d_M_go_90 rfl (lv_at hl 7 rfl) ?_
                        refine lv_icmp_gt (tgt := 182) hx hb d_M_go_91 (by decide) (fun c_1 => ?_) (fun c_1 => ?_)
                        · have c_1 := (nI_ltI (by omega) (by omega)).mp c_1
                          refine lv_iconst (v := nI 0) hx hb d_M_go_182 (by decide) ?_
                          refine lv_istore (lv' := [(7, .int (nI 0)), (6, .int (bI (sbB F frm d))), (3, .int (nI a)), (4, .int (oI (cl pt qt pn a))), (5, .int (bI (iu pt qt pn a (nI 42)))), (0, .ref h0), (1, .int (nI frm)), (2, .int (nI too))]) hx hb d_M_go_183 hl (by decide) rfl (fun ls hl => ?_)
                          have hE3 : ∀ j, j ≤ 400 → nv j = bI (sgB tx pt qt pn frm too F a j) := by
                            intro j q
                            rw [hN j q]; unfold sgB; rw [show too + 1 - frm = d by omega]
                          have L185 : ∀ (n4 j4 : Nat) (aw : Nat → Int32) (H : Heap) (locs : List Loc), j4 ≤ 1000 → 1000 < j4 + n4 → (∀ j, j < j4 → j ≤ 400 → aw j = bI (sgB tx pt qt pn frm too F a j)) → va_P (dC, dI) classes (wM h0 a1 a2 a3 a4 a5 cI cZ cd tx pt qt aw nv tn pn) H → va_D A (wM h0 a1 a2 a3 a4 a5 cI cZ cd tx pt qt aw nv tn pn) → va_S A s.heap H locs → ∀ ls : Array Slot, lv_has ls 8 [(7, .int (nI j4)), (3, .int (nI a)), (4, .int (oI (cl pt qt pn a))), (5, .int (bI (iu pt qt pn a (nI 42)))), (0, .ref h0), (1, .int (nI frm)), (2, .int (nI too))] → W p l e (Rm 3 74) s mm [.ref h0, .int (nI frm), .int (nI too)].toArray below meth c H locs 0 0 (MQ below (va_Qv (fun (u : (Nat → Int32) × (Nat → Int32)) => ∀ j, j ≤ 400 → u.1 j = bI (mM tx pt qt pn frm too j)) (fun (u : (Nat → Int32) × (Nat → Int32)) (t : State) => va_P (dC, dI) classes (wM h0 a1 a2 a3 a4 a5 cI cZ cd tx pt qt u.1 u.2 tn pn) t.heap ∧ va_K (dC, dI) classes (tyIZ cI cZ) t ∧ va_D A (wM h0 a1 a2 a3 a4 a5 cI cZ cd tx pt qt u.1 u.2 tn pn)) A) [.ref h0, .int (nI frm), .int (nI too)].toArray s 0 0 A) (F0 mm 185 ls []) := by
                            intro n4
                            induction n4 with
                            | zero => intro j4 aw H locs h1 h2; exact absurd h2 (by omega)
                            | succ n4 ih4 =>
                              intro j4 aw H locs hj4 hn4 hE4 hP hD hS ls hl
                              refine lv_iload hx hb d_M_go_185 (lv_at hl 0 rfl) ?_
                              refine lv_sipush (v := nI 400) hx hb d_M_go_187 (by decide) ?_
                              refine lv_icmp_gt (tgt := 213) hx hb d_M_go_190 (by decide) (fun c_1 => ?_) (fun c_1 => ?_)
                              · have c_1 := (nI_ltI (by omega) (by omega)).mp c_1
                                refine lv_iload hx hb d_M_go_213 (lv_at hl 2 rfl) ?_
                                refine lv_iconst (v := -1) hx hb d_M_go_215 (by decide) ?_
                                refine lv_icmp_eq (tgt := 226) hx hb d_M_go_216 (by decide) (fun c_2 => ?_) (fun c_2 => ?_)
                                · have c_2 := (cl_m1 hp).mp c_2
                                  refine lv_iload_n hx hb d_M_go_226 rfl (lv_at hl 1 rfl) ?_
                                  refine lv_iconst (v := nI 1) hx hb d_M_go_227 (by decide) ?_
                                  refine lv_iadd hx hb d_M_go_228 ?_
                                  refine lv_topi (fun v_3 ev_3 => ?_)
                                  obtain rfl : v_3 = nI (a + 1) := ev_3.trans (nI_add _ _)
                                  refine lv_istore_n (lv' := [(3, .int (nI (a + 1))), (7, .int (nI j4)), (4, .int (oI (cl pt qt pn a))), (5, .int (bI (iu pt qt pn a (nI 42)))), (0, .ref h0), (1, .int (nI frm)), (2, .int (nI too))]) hx hb d_M_go_229 rfl hl (by decide) rfl (fun ls hl => ?_)
                                  refine lv_goto (tgt := 33) hx hb d_M_go_230 (by decide) ?_
                                  exact ih (nx pt qt pn a) (sgB tx pt qt pn frm too F a) _ _ _ _ (nx_le (by omega)) (by omega) (by rw [← rdB_go (by omega)]; exact hE) (fun j q => hE4 j (by omega) q) hP hD hS ls (by have hl := (lv_sub hl [0, 4, 5, 6] rfl); rw [show nx pt qt pn a = a + 1 by unfold nx; rw [‹cl pt qt pn a = _›]]; exact hl)
                                · obtain ⟨kk, hkk⟩ : ∃ kk, cl pt qt pn a = some kk := by
                                    cases q : cl pt qt pn a with
                                    | none => exact absurd ((cl_m1 hp).mpr q) c_2
                                    | some kk => exact ⟨kk, rfl⟩
                                  have hl : lv_has ls 8 [(7, .int (nI j4)), (3, .int (nI a)), (4, .int (nI kk)), (5, .int (bI (iu pt qt pn a (nI 42)))), (0, .ref h0), (1, .int (nI frm)), (2, .int (nI too))] := by rw [hkk] at hl; exact hl
                                  refine lv_iload hx hb d_M_go_219 (lv_at hl 2 rfl) ?_
                                  refine lv_iconst (v := nI 1) hx hb d_M_go_221 (by decide) ?_
                                  refine lv_iadd hx hb d_M_go_222 ?_
                                  refine lv_topi (fun v_4 ev_4 => ?_)
                                  obtain rfl : v_4 = nI (kk + 1) := ev_4.trans (nI_add _ _)
                                  refine lv_goto (tgt := 229) hx hb d_M_go_223 (by decide) ?_
                                  refine lv_istore_n (lv' := [(3, .int (nI (kk + 1))), (7, .int (nI j4)), (4, .int (nI kk)), (5, .int (bI (iu pt qt pn a (nI 42)))), (0, .ref h0), (1, .int (nI frm)), (2, .int (nI too))]) hx hb d_M_go_229 rfl hl (by decide) rfl (fun ls hl => ?_)
                                  refine lv_goto (tgt := 33) hx hb d_M_go_230 (by decide) ?_
                                  exact ih (nx pt qt pn a) (sgB tx pt qt pn frm too F a) _ _ _ _ (nx_le (by omega)) (by omega) (by rw [← rdB_go (by omega)]; exact hE) (fun j q => hE4 j (by omega) q) hP hD hS ls (by have hl := (lv_sub hl [0, 4, 5, 6] rfl); rw [show nx pt qt pn a = kk + 1 by unfold nx; rw [‹cl pt qt pn a = _›]]; exact hl)
                              · have c_1 := mt (nI_ltI (by omega) (by omega)).mpr c_1
                                refine lv_aload_n hx hb d_M_go_193 rfl (lv_at hl 4 rfl) ?_
                                refine va_get (D := (dC, dI)) (ci := 1) (v := .ref a4) (C := R_M) (T := F_M) (N := 8) hx hb htB in_M hown hK hP 0 rfl rfl 6 (by decide) (htB _ hfl_M_20) (fun _ h9 => h9) rfl d_M_go_194 ?_
                                refine lv_iload hx hb d_M_go_197 (lv_at hl 0 rfl) ?_
                                refine lv_aload_n hx hb d_M_go_199 rfl (lv_at hl 4 rfl) ?_
                                refine va_get (D := (dC, dI)) (ci := 1) (v := .ref a5) (C := R_M) (T := F_M) (N := 8) hx hb htB in_M hown hK hP 0 rfl rfl 7 (by decide) (htB _ hfl_M_23) (fun _ h9 => h9) rfl d_M_go_200 ?_
                                refine lv_iload hx hb d_M_go_203 (lv_at hl 0 rfl) ?_
                                refine va_zald hx hb hK hP 5 1 rfl rfl (vp_in_nI (n := j4) (by omega) (by decide)) d_M_go_205 ?_
                                refine lv_topi (fun v_5 ev_5 => ?_)
                                obtain rfl : v_5 = bI (sgB tx pt qt pn frm too F a j4) := (show v_5 = nv j4 from ev_5.trans (by rw [nI_clamp (n := j4) (by omega)])).trans (hE3 j4 (by omega))
                                refine va_zast hx hb hK hP hD hS 4 1 rfl rfl (vp_in_nI (n := j4) (by omega) (by decide)) d_M_go_206 (fun H locs hP hD hS => ?_)
                                rw [nI_clamp (n := j4) (by omega), bI_vn] at hP hD
                                have hP : va_P (dC, dI) classes (wM h0 a1 a2 a3 a4 a5 cI cZ cd tx pt qt (upd aw j4 (bI (sgB tx pt qt pn frm too F a j4))) nv tn pn) H := hP
                                have hD : va_D A (wM h0 a1 a2 a3 a4 a5 cI cZ cd tx pt qt (upd aw j4 (bI (sgB tx pt qt pn frm too F a j4))) nv tn pn) := hD
                                refine lv_iinc (v := nI (j4 + 1)) (lv' := [(7, .int (nI (j4 + 1))), (3, .int (nI a)), (4, .int (oI (cl pt qt pn a))), (5, .int (bI (iu pt qt pn a (nI 42)))), (0, .ref h0), (1, .int (nI frm)), (2, .int (nI too))]) hx hb d_M_go_207 hl (k := 0) rfl (nI_add _ 1) (by decide) rfl (fun ls hl => ?_)
                                refine lv_goto (tgt := 185) hx hb d_M_go_210 (by decide) ?_
                                refine ih4 (j4 + 1) _ _ _ (by omega) (by omega) (fun j q1 q2 => ?_) hP hD hS ls (lv_sub hl [0, 1, 2, 3, 4, 5, 6] rfl)
                                by_cases q : j = j4
                                · subst q; rw [pk_us]
                                · rw [pk_un q]; exact hE4 j (by omega) q2
                          exact L185 1001 0 _ _ _ (by omega) (by omega) (fun j q => absurd q (by omega)) hP hD hS ls (lv_sub hl [0, 2, 3, 4, 5, 6, 7] rfl)
                        · have c_1 := mt (nI_ltI (by omega) (by omega)).mpr c_1
                          refine lv_iload hx hb d_M_go_94 (lv_at hl 1 rfl) ?_
                          refine lv_if_ne (tgt := 109) hx hb d_M_go_96 (by decide) (fun c_2 => ?_) (fun c_2 => ?_)
                          · have c_2 := bI_nz.mp c_2
                            refine lv_iconst (v := nI 1) hx hb d_M_go_109 (by decide) ?_
                            refine lv_goto (tgt := 114) hx hb d_M_go_110 (by decide) ?_
                            refine lv_istore (lv' := [(6, .int (nI 1)), (7, .int (nI (frm + d))), (3, .int (nI a)), (4, .int (oI (cl pt qt pn a))), (5, .int (bI (iu pt qt pn a (nI 42)))), (0, .ref h0), (1, .int (nI frm)), (2, .int (nI too))]) hx hb d_M_go_114 hl (by decide) rfl (fun ls hl => ?_)
                            refine lv_iload hx hb d_M_go_116 (lv_at hl 4 rfl) ?_
                            refine lv_if_eq (tgt := 133) hx hb d_M_go_118 (by decide) (fun c_3 => ?_) (fun c_3 => ?_)
                            · have c_3 := bI_z.mp c_3
                              refine lv_aload_n hx hb d_M_go_133 rfl (lv_at hl 5 rfl) ?_
                              refine va_get (D := (dC, dI)) (ci := 1) (v := .ref a4) (C := R_M) (T := F_M) (N := 8) hx hb htB in_M hown hK hP 0 rfl rfl 6 (by decide) (htB _ hfl_M_20) (fun _ h9 => h9) rfl d_M_go_134 ?_
                              refine lv_iload hx hb d_M_go_137 (lv_at hl 1 rfl) ?_
                              refine va_zald hx hb hK hP 4 1 rfl rfl (vp_in_nI (n := frm + d) (by omega) (by decide)) d_M_go_139 ?_
                              refine lv_topi (fun v_4 ev_4 => ?_)
                              obtain rfl : v_4 = bI (F (frm + d)) := (show v_4 = av (frm + d) from ev_4.trans (by rw [nI_clamp (n := frm + d) (by omega)])).trans (hav (frm + d) (by omega))
                              refine lv_if_eq (tgt := 176) hx hb d_M_go_140 (by decide) (fun c_5 => ?_) (fun c_5 => ?_)
                              · have c_5 := bI_z.mp c_5
                                refine lv_iinc (v := nI (frm + d + 1)) (lv' := [(7, .int (nI (frm + d + 1))), (6, .int (nI 1)), (3, .int (nI a)), (4, .int (oI (cl pt qt pn a))), (5, .int (bI (iu pt qt pn a (nI 42)))), (0, .ref h0), (1, .int (nI frm)), (2, .int (nI too))]) hx hb d_M_go_176 hl (k := 1) rfl (nI_add _ 1) (by decide) rfl (fun ls hl => ?_)
                                refine lv_goto (tgt := 88) hx hb d_M_go_179 (by decide) ?_
                                have hs9 : sbB F frm (d + 1) = true := by
                                  show (sbB F frm d || F (frm + d)) = _
                                  first | (rw [‹sbB F frm d = true›]; rfl) | (rw [‹F (frm + d) = true›, Bool.or_true])
                                exact ih3 (d + 1) _ _ _ (by omega) (by omega) (by omega) (NB_miss ‹_› (by first | exact Or.inl ‹_› | exact Or.inr (Or.inl (by omega)) | exact Or.inr (Or.inr ‹_›)) hN) hP hD hS ls (by rw [hs9]; exact (lv_sub hl [0, 1, 2, 3, 4, 5, 6, 7] rfl))
                              · have c_5 := bI_nz.mp c_5
                                refine lv_iload hx hb d_M_go_143 (lv_at hl 1 rfl) ?_
                                refine lv_iload_n hx hb d_M_go_145 rfl (lv_at hl 7 rfl) ?_
                                refine lv_icmp_ge (tgt := 176) hx hb d_M_go_146 (by decide) (fun c_6 => ?_) (fun c_6 => ?_)
                                · have c_6 := (nI_leI (by omega) (by omega)).mp c_6
                                  refine lv_iinc (v := nI (frm + d + 1)) (lv' := [(7, .int (nI (frm + d + 1))), (6, .int (nI 1)), (3, .int (nI a)), (4, .int (oI (cl pt qt pn a))), (5, .int (bI (iu pt qt pn a (nI 42)))), (0, .ref h0), (1, .int (nI frm)), (2, .int (nI too))]) hx hb d_M_go_176 hl (k := 1) rfl (nI_add _ 1) (by decide) rfl (fun ls hl => ?_)
                                  refine lv_goto (tgt := 88) hx hb d_M_go_179 (by decide) ?_
                                  have hs9 : sbB F frm (d + 1) = true := by
                                    show (sbB F frm d || F (frm + d)) = _
                                    first | (rw [‹sbB F frm d = true›]; rfl) | (rw [‹F (frm + d) = true›, Bool.or_true])
                                  exact ih3 (d + 1) _ _ _ (by omega) (by omega) (by omega) (NB_miss ‹_› (by first | exact Or.inl ‹_› | exact Or.inr (Or.inl (by omega)) | exact Or.inr (Or.inr ‹_›)) hN) hP hD hS ls (by rw [hs9]; exact (lv_sub hl [0, 1, 2, 3, 4, 5, 6, 7] rfl))
                                · have c_6 := mt (nI_leI (by omega) (by omega)).mpr c_6
                                  refine lv_aload_n hx hb d_M_go_149 rfl (lv_at hl 5 rfl) ?_
                                  refine lv_iload_n hx hb d_M_go_150 rfl (lv_at hl 2 rfl) ?_
                                  refine lv_iload hx hb d_M_go_151 (lv_at hl 3 rfl) ?_
                                  refine lv_aload_n hx hb d_M_go_153 rfl (lv_at hl 5 rfl) ?_
                                  refine va_get (D := (dC, dI)) (ci := 1) (v := .ref a1) (C := R_M) (T := F_M) (N := 8) hx hb htB in_M hown hK hP 0 rfl rfl 1 (by decide) (htB _ hfl_M_7) (fun _ h9 => h9) rfl d_M_go_154 ?_
                                  refine lv_iload hx hb d_M_go_157 (lv_at hl 1 rfl) ?_
                                  refine va_iald hx hb hK hP 1 0 rfl rfl (vp_in_nI (n := frm + d) (by omega) (by decide)) d_M_go_159 ?_
                                  refine lv_topi (fun v_7 ev_7 => ?_)
                                  obtain rfl : v_7 = tx (frm + d) := ev_7.trans (by rw [nI_clamp (n := frm + d) (by omega)])
                                  refine r_M_takes hp (by omega) (fun k q => by have := cl_in q; omega) hx hb hml hown htB hK hP hl.1 (Nat.le_of_ble_eq_true rfl) ⟨Nat.le_of_ble_eq_true rfl, Nat.le_of_ble_eq_true rfl⟩ ⟨Nat.zero_le _, Nat.zero_le _⟩ d_M_go_160 ?_
                                  refine lv_if_eq (tgt := 176) hx hb d_M_go_163 (by decide) (fun c_8 => ?_) (fun c_8 => ?_)
                                  · have c_8 := bI_z.mp c_8
                                    refine lv_iinc (v := nI (frm + d + 1)) (lv' := [(7, .int (nI (frm + d + 1))), (6, .int (nI 1)), (3, .int (nI a)), (4, .int (oI (cl pt qt pn a))), (5, .int (bI (iu pt qt pn a (nI 42)))), (0, .ref h0), (1, .int (nI frm)), (2, .int (nI too))]) hx hb d_M_go_176 hl (k := 1) rfl (nI_add _ 1) (by decide) rfl (fun ls hl => ?_)
                                    refine lv_goto (tgt := 88) hx hb d_M_go_179 (by decide) ?_
                                    have hs9 : sbB F frm (d + 1) = true := by
                                      show (sbB F frm d || F (frm + d)) = _
                                      first | (rw [‹sbB F frm d = true›]; rfl) | (rw [‹F (frm + d) = true›, Bool.or_true])
                                    exact ih3 (d + 1) _ _ _ (by omega) (by omega) (by omega) (NB_miss ‹_› (by first | exact Or.inl ‹_› | exact Or.inr (Or.inl (by omega)) | exact Or.inr (Or.inr ‹_›)) hN) hP hD hS ls (by rw [hs9]; exact (lv_sub hl [0, 1, 2, 3, 4, 5, 6, 7] rfl))
                                  · have c_8 := bI_nz.mp c_8
                                    refine lv_aload_n hx hb d_M_go_166 rfl (lv_at hl 5 rfl) ?_
                                    refine va_get (D := (dC, dI)) (ci := 1) (v := .ref a5) (C := R_M) (T := F_M) (N := 8) hx hb htB in_M hown hK hP 0 rfl rfl 7 (by decide) (htB _ hfl_M_23) (fun _ h9 => h9) rfl d_M_go_167 ?_
                                    refine lv_iload hx hb d_M_go_170 (lv_at hl 1 rfl) ?_
                                    refine lv_iconst (v := nI 1) hx hb d_M_go_172 (by decide) ?_
                                    refine lv_iadd hx hb d_M_go_173 ?_
                                    refine lv_topi (fun v_9 ev_9 => ?_)
                                    obtain rfl : v_9 = nI (frm + d + 1) := ev_9.trans (nI_add _ _)
                                    refine lv_iconst (v := nI 1) hx hb d_M_go_174 (by decide) ?_
                                    refine va_zast hx hb hK hP hD hS 5 1 rfl rfl (vp_in_nI (n := frm + d + 1) (by omega) (by decide)) d_M_go_175 (fun H locs hP hD hS => ?_)
                                    rw [nI_clamp (n := frm + d + 1) (by omega), show vp_nar .boolean (nI 1) = nI 1 from rfl] at hP hD
                                    have hP : va_P (dC, dI) classes (wM h0 a1 a2 a3 a4 a5 cI cZ cd tx pt qt av (upd nv (frm + d + 1) (nI 1)) tn pn) H := hP
                                    have hD : va_D A (wM h0 a1 a2 a3 a4 a5 cI cZ cd tx pt qt av (upd nv (frm + d + 1) (nI 1)) tn pn) := hD
                                    refine lv_iinc (v := nI (frm + d + 1)) (lv' := [(7, .int (nI (frm + d + 1))), (6, .int (nI 1)), (3, .int (nI a)), (4, .int (oI (cl pt qt pn a))), (5, .int (bI (iu pt qt pn a (nI 42)))), (0, .ref h0), (1, .int (nI frm)), (2, .int (nI too))]) hx hb d_M_go_176 hl (k := 1) rfl (nI_add _ 1) (by decide) rfl (fun ls hl => ?_)
                                    refine lv_goto (tgt := 88) hx hb d_M_go_179 (by decide) ?_
                                    have hs9 : sbB F frm (d + 1) = true := by
                                      show (sbB F frm d || F (frm + d)) = _
                                      first | (rw [‹sbB F frm d = true›]; rfl) | (rw [‹F (frm + d) = true›, Bool.or_true])
                                    exact ih3 (d + 1) _ _ _ (by omega) (by omega) (by omega) (NB_hit ‹_› ‹_› (by omega) ‹_› hN) hP hD hS ls (by rw [hs9]; exact (lv_sub hl [0, 1, 2, 3, 4, 5, 6, 7] rfl))
                            · have c_3 := bI_nz.mp c_3
                              refine lv_aload_n hx hb d_M_go_121 rfl (lv_at hl 5 rfl) ?_
                              refine va_get (D := (dC, dI)) (ci := 1) (v := .ref a5) (C := R_M) (T := F_M) (N := 8) hx hb htB in_M hown hK hP 0 rfl rfl 7 (by decide) (htB _ hfl_M_23) (fun _ h9 => h9) rfl d_M_go_122 ?_
                              refine lv_iload hx hb d_M_go_125 (lv_at hl 1 rfl) ?_
                              refine lv_iload hx hb d_M_go_127 (lv_at hl 0 rfl) ?_
                              refine va_zast hx hb hK hP hD hS 5 1 rfl rfl (vp_in_nI (n := frm + d) (by omega) (by decide)) d_M_go_129 (fun H locs hP hD hS => ?_)
                              rw [nI_clamp (n := frm + d) (by omega), show vp_nar .boolean (nI 1) = nI 1 from rfl] at hP hD
                              have hP : va_P (dC, dI) classes (wM h0 a1 a2 a3 a4 a5 cI cZ cd tx pt qt av (upd nv (frm + d) (nI 1)) tn pn) H := hP
                              have hD : va_D A (wM h0 a1 a2 a3 a4 a5 cI cZ cd tx pt qt av (upd nv (frm + d) (nI 1)) tn pn) := hD
                              refine lv_goto (tgt := 176) hx hb d_M_go_130 (by decide) ?_
                              refine lv_iinc (v := nI (frm + d + 1)) (lv' := [(7, .int (nI (frm + d + 1))), (6, .int (nI 1)), (3, .int (nI a)), (4, .int (oI (cl pt qt pn a))), (5, .int (bI (iu pt qt pn a (nI 42)))), (0, .ref h0), (1, .int (nI frm)), (2, .int (nI too))]) hx hb d_M_go_176 hl (k := 1) rfl (nI_add _ 1) (by decide) rfl (fun ls hl => ?_)
                              refine lv_goto (tgt := 88) hx hb d_M_go_179 (by decide) ?_
                              have hs9 : sbB F frm (d + 1) = true := by
                                show (sbB F frm d || F (frm + d)) = _
                                first | (rw [‹sbB F frm d = true›]; rfl) | (rw [‹F (frm + d) = true›, Bool.or_true])
                              exact ih3 (d + 1) _ _ _ (by omega) (by omega) (by omega) (NB_star (v := true) ‹_› hs9.symm hN) hP hD hS ls (by rw [hs9]; exact (lv_sub hl [0, 1, 2, 3, 4, 5, 6, 7] rfl))
                          · have c_2 := bI_z.mp c_2
                            refine lv_aload_n hx hb d_M_go_99 rfl (lv_at hl 5 rfl) ?_
                            refine va_get (D := (dC, dI)) (ci := 1) (v := .ref a4) (C := R_M) (T := F_M) (N := 8) hx hb htB in_M hown hK hP 0 rfl rfl 6 (by decide) (htB _ hfl_M_20) (fun _ h9 => h9) rfl d_M_go_100 ?_
                            refine lv_iload hx hb d_M_go_103 (lv_at hl 0 rfl) ?_
                            refine va_zald hx hb hK hP 4 1 rfl rfl (vp_in_nI (n := frm + d) (by omega) (by decide)) d_M_go_105 ?_
                            refine lv_topi (fun v_10 ev_10 => ?_)
                            obtain rfl : v_10 = bI (F (frm + d)) := (show v_10 = av (frm + d) from ev_10.trans (by rw [nI_clamp (n := frm + d) (by omega)])).trans (hav (frm + d) (by omega))
                            refine lv_if_eq (tgt := 113) hx hb d_M_go_106 (by decide) (fun c_11 => ?_) (fun c_11 => ?_)
                            · have c_11 := bI_z.mp c_11
                              refine lv_iconst (v := nI 0) hx hb d_M_go_113 (by decide) ?_
                              refine lv_istore (lv' := [(6, .int (nI 0)), (7, .int (nI (frm + d))), (3, .int (nI a)), (4, .int (oI (cl pt qt pn a))), (5, .int (bI (iu pt qt pn a (nI 42)))), (0, .ref h0), (1, .int (nI frm)), (2, .int (nI too))]) hx hb d_M_go_114 hl (by decide) rfl (fun ls hl => ?_)
                              refine lv_iload hx hb d_M_go_116 (lv_at hl 4 rfl) ?_
                              refine lv_if_eq (tgt := 133) hx hb d_M_go_118 (by decide) (fun c_12 => ?_) (fun c_12 => ?_)
                              · have c_12 := bI_z.mp c_12
                                refine lv_aload_n hx hb d_M_go_133 rfl (lv_at hl 5 rfl) ?_
                                refine va_get (D := (dC, dI)) (ci := 1) (v := .ref a4) (C := R_M) (T := F_M) (N := 8) hx hb htB in_M hown hK hP 0 rfl rfl 6 (by decide) (htB _ hfl_M_20) (fun _ h9 => h9) rfl d_M_go_134 ?_
                                refine lv_iload hx hb d_M_go_137 (lv_at hl 1 rfl) ?_
                                refine va_zald hx hb hK hP 4 1 rfl rfl (vp_in_nI (n := frm + d) (by omega) (by decide)) d_M_go_139 ?_
                                refine lv_topi (fun v_13 ev_13 => ?_)
                                obtain rfl : v_13 = bI (F (frm + d)) := (show v_13 = av (frm + d) from ev_13.trans (by rw [nI_clamp (n := frm + d) (by omega)])).trans (hav (frm + d) (by omega))
                                refine lv_if_eq (tgt := 176) hx hb d_M_go_140 (by decide) (fun c_14 => ?_) (fun c_14 => ?_)
                                · have c_14 := bI_z.mp c_14
                                  refine lv_iinc (v := nI (frm + d + 1)) (lv' := [(7, .int (nI (frm + d + 1))), (6, .int (nI 0)), (3, .int (nI a)), (4, .int (oI (cl pt qt pn a))), (5, .int (bI (iu pt qt pn a (nI 42)))), (0, .ref h0), (1, .int (nI frm)), (2, .int (nI too))]) hx hb d_M_go_176 hl (k := 1) rfl (nI_add _ 1) (by decide) rfl (fun ls hl => ?_)
                                  refine lv_goto (tgt := 88) hx hb d_M_go_179 (by decide) ?_
                                  have hs9 : sbB F frm (d + 1) = false := by
                                    show (sbB F frm d || F (frm + d)) = _
                                    rw [‹sbB F frm d = false›, ‹F (frm + d) = false›]; rfl
                                  exact ih3 (d + 1) _ _ _ (by omega) (by omega) (by omega) (NB_miss ‹_› (by first | exact Or.inl ‹_› | exact Or.inr (Or.inl (by omega)) | exact Or.inr (Or.inr ‹_›)) hN) hP hD hS ls (by rw [hs9]; exact (lv_sub hl [0, 1, 2, 3, 4, 5, 6, 7] rfl))
                                · have c_14 := bI_nz.mp c_14
                                  refine lv_iload hx hb d_M_go_143 (lv_at hl 1 rfl) ?_
                                  refine lv_iload_n hx hb d_M_go_145 rfl (lv_at hl 7 rfl) ?_
                                  refine lv_icmp_ge (tgt := 176) hx hb d_M_go_146 (by decide) (fun c_15 => ?_) (fun c_15 => ?_)
                                  · have c_15 := (nI_leI (by omega) (by omega)).mp c_15
                                    refine lv_iinc (v := nI (frm + d + 1)) (lv' := [(7, .int (nI (frm + d + 1))), (6, .int (nI 0)), (3, .int (nI a)), (4, .int (oI (cl pt qt pn a))), (5, .int (bI (iu pt qt pn a (nI 42)))), (0, .ref h0), (1, .int (nI frm)), (2, .int (nI too))]) hx hb d_M_go_176 hl (k := 1) rfl (nI_add _ 1) (by decide) rfl (fun ls hl => ?_)
                                    refine lv_goto (tgt := 88) hx hb d_M_go_179 (by decide) ?_
                                    have hs9 : sbB F frm (d + 1) = false := by
                                      show (sbB F frm d || F (frm + d)) = _
                                      rw [‹sbB F frm d = false›, ‹F (frm + d) = false›]; rfl
                                    exact ih3 (d + 1) _ _ _ (by omega) (by omega) (by omega) (NB_miss ‹_› (by first | exact Or.inl ‹_› | exact Or.inr (Or.inl (by omega)) | exact Or.inr (Or.inr ‹_›)) hN) hP hD hS ls (by rw [hs9]; exact (lv_sub hl [0, 1, 2, 3, 4, 5, 6, 7] rfl))
                                  · have c_15 := mt (nI_leI (by omega) (by omega)).mpr c_15
                                    refine lv_aload_n hx hb d_M_go_149 rfl (lv_at hl 5 rfl) ?_
                                    refine lv_iload_n hx hb d_M_go_150 rfl (lv_at hl 2 rfl) ?_
                                    refine lv_iload hx hb d_M_go_151 (lv_at hl 3 rfl) ?_
                                    refine lv_aload_n hx hb d_M_go_153 rfl (lv_at hl 5 rfl) ?_
                                    refine va_get (D := (dC, dI)) (ci := 1) (v := .ref a1) (C := R_M) (T := F_M) (N := 8) hx hb htB in_M hown hK hP 0 rfl rfl 1 (by decide) (htB _ hfl_M_7) (fun _ h9 => h9) rfl d_M_go_154 ?_
                                    refine lv_iload hx hb d_M_go_157 (lv_at hl 1 rfl) ?_
                                    refine va_iald hx hb hK hP 1 0 rfl rfl (vp_in_nI (n := frm + d) (by omega) (by decide)) d_M_go_159 ?_
                                    refine lv_topi (fun v_16 ev_16 => ?_)
                                    obtain rfl : v_16 = tx (frm + d) := ev_16.trans (by rw [nI_clamp (n := frm + d) (by omega)])
                                    refine r_M_takes hp (by omega) (fun k q => by have := cl_in q; omega) hx hb hml hown htB hK hP hl.1 (Nat.le_of_ble_eq_true rfl) ⟨Nat.le_of_ble_eq_true rfl, Nat.le_of_ble_eq_true rfl⟩ ⟨Nat.zero_le _, Nat.zero_le _⟩ d_M_go_160 ?_
                                    refine lv_if_eq (tgt := 176) hx hb d_M_go_163 (by decide) (fun c_17 => ?_) (fun c_17 => ?_)
                                    · have c_17 := bI_z.mp c_17
                                      refine lv_iinc (v := nI (frm + d + 1)) (lv' := [(7, .int (nI (frm + d + 1))), (6, .int (nI 0)), (3, .int (nI a)), (4, .int (oI (cl pt qt pn a))), (5, .int (bI (iu pt qt pn a (nI 42)))), (0, .ref h0), (1, .int (nI frm)), (2, .int (nI too))]) hx hb d_M_go_176 hl (k := 1) rfl (nI_add _ 1) (by decide) rfl (fun ls hl => ?_)
                                      refine lv_goto (tgt := 88) hx hb d_M_go_179 (by decide) ?_
                                      have hs9 : sbB F frm (d + 1) = false := by
                                        show (sbB F frm d || F (frm + d)) = _
                                        rw [‹sbB F frm d = false›, ‹F (frm + d) = false›]; rfl
                                      exact ih3 (d + 1) _ _ _ (by omega) (by omega) (by omega) (NB_miss ‹_› (by first | exact Or.inl ‹_› | exact Or.inr (Or.inl (by omega)) | exact Or.inr (Or.inr ‹_›)) hN) hP hD hS ls (by rw [hs9]; exact (lv_sub hl [0, 1, 2, 3, 4, 5, 6, 7] rfl))
                                    · have c_17 := bI_nz.mp c_17
                                      refine lv_aload_n hx hb d_M_go_166 rfl (lv_at hl 5 rfl) ?_
                                      refine va_get (D := (dC, dI)) (ci := 1) (v := .ref a5) (C := R_M) (T := F_M) (N := 8) hx hb htB in_M hown hK hP 0 rfl rfl 7 (by decide) (htB _ hfl_M_23) (fun _ h9 => h9) rfl d_M_go_167 ?_
                                      refine lv_iload hx hb d_M_go_170 (lv_at hl 1 rfl) ?_
                                      refine lv_iconst (v := nI 1) hx hb d_M_go_172 (by decide) ?_
                                      refine lv_iadd hx hb d_M_go_173 ?_
                                      refine lv_topi (fun v_18 ev_18 => ?_)
                                      obtain rfl : v_18 = nI (frm + d + 1) := ev_18.trans (nI_add _ _)
                                      refine lv_iconst (v := nI 1) hx hb d_M_go_174 (by decide) ?_
                                      refine va_zast hx hb hK hP hD hS 5 1 rfl rfl (vp_in_nI (n := frm + d + 1) (by omega) (by decide)) d_M_go_175 (fun H locs hP hD hS => ?_)
                                      rw [nI_clamp (n := frm + d + 1) (by omega), show vp_nar .boolean (nI 1) = nI 1 from rfl] at hP hD
                                      have hP : va_P (dC, dI) classes (wM h0 a1 a2 a3 a4 a5 cI cZ cd tx pt qt av (upd nv (frm + d + 1) (nI 1)) tn pn) H := hP
                                      have hD : va_D A (wM h0 a1 a2 a3 a4 a5 cI cZ cd tx pt qt av (upd nv (frm + d + 1) (nI 1)) tn pn) := hD
                                      refine lv_iinc (v := nI (frm + d + 1)) (lv' := [(7, .int (nI (frm + d + 1))), (6, .int (nI 0)), (3, .int (nI a)), (4, .int (oI (cl pt qt pn a))), (5, .int (bI (iu pt qt pn a (nI 42)))), (0, .ref h0), (1, .int (nI frm)), (2, .int (nI too))]) hx hb d_M_go_176 hl (k := 1) rfl (nI_add _ 1) (by decide) rfl (fun ls hl => ?_)
                                      refine lv_goto (tgt := 88) hx hb d_M_go_179 (by decide) ?_
                                      have hs9 : sbB F frm (d + 1) = false := by
                                        show (sbB F frm d || F (frm + d)) = _
                                        rw [‹sbB F frm d = false›, ‹F (frm + d) = false›]; rfl
                                      exact ih3 (d + 1) _ _ _ (by omega) (by omega) (by omega) (NB_hit ‹_› ‹_› (by omega) ‹_› hN) hP hD hS ls (by rw [hs9]; exact (lv_sub hl [0, 1, 2, 3, 4, 5, 6, 7] rfl))
                              · have c_12 := bI_nz.mp c_12
                                refine lv_aload_n hx hb d_M_go_121 rfl (lv_at hl 5 rfl) ?_
                                refine va_get (D := (dC, dI)) (ci := 1) (v := .ref a5) (C := R_M) (T := F_M) (N := 8) hx hb htB in_M hown hK hP 0 rfl rfl 7 (by decide) (htB _ hfl_M_23) (fun _ h9 => h9) rfl d_M_go_122 ?_
                                refine lv_iload hx hb d_M_go_125 (lv_at hl 1 rfl) ?_
                                refine lv_iload hx hb d_M_go_127 (lv_at hl 0 rfl) ?_
                                refine va_zast hx hb hK hP hD hS 5 1 rfl rfl (vp_in_nI (n := frm + d) (by omega) (by decide)) d_M_go_129 (fun H locs hP hD hS => ?_)
                                rw [nI_clamp (n := frm + d) (by omega), show vp_nar .boolean (nI 0) = nI 0 from rfl] at hP hD
                                have hP : va_P (dC, dI) classes (wM h0 a1 a2 a3 a4 a5 cI cZ cd tx pt qt av (upd nv (frm + d) (nI 0)) tn pn) H := hP
                                have hD : va_D A (wM h0 a1 a2 a3 a4 a5 cI cZ cd tx pt qt av (upd nv (frm + d) (nI 0)) tn pn) := hD
                                refine lv_goto (tgt := 176) hx hb d_M_go_130 (by decide) ?_
                                refine lv_iinc (v := nI (frm + d + 1)) (lv' := [(7, .int (nI (frm + d + 1))), (6, .int (nI 0)), (3, .int (nI a)), (4, .int (oI (cl pt qt pn a))), (5, .int (bI (iu pt qt pn a (nI 42)))), (0, .ref h0), (1, .int (nI frm)), (2, .int (nI too))]) hx hb d_M_go_176 hl (k := 1) rfl (nI_add _ 1) (by decide) rfl (fun ls hl => ?_)
                                refine lv_goto (tgt := 88) hx hb d_M_go_179 (by decide) ?_
                                have hs9 : sbB F frm (d + 1) = false := by
                                  show (sbB F frm d || F (frm + d)) = _
                                  rw [‹sbB F frm d = false›, ‹F (frm + d) = false›]; rfl
                                exact ih3 (d + 1) _ _ _ (by omega) (by omega) (by omega) (NB_star (v := false) ‹_› hs9.symm hN) hP hD hS ls (by rw [hs9]; exact (lv_sub hl [0, 1, 2, 3, 4, 5, 6, 7] rfl))
                            · have c_11 := bI_nz.mp c_11
                              refine lv_iconst (v := nI 1) hx hb d_M_go_109 (by decide) ?_
                              refine lv_goto (tgt := 114) hx hb d_M_go_110 (by decide) ?_
                              refine lv_istore (lv' := [(6, .int (nI 1)), (7, .int (nI (frm + d))), (3, .int (nI a)), (4, .int (oI (cl pt qt pn a))), (5, .int (bI (iu pt qt pn a (nI 42)))), (0, .ref h0), (1, .int (nI frm)), (2, .int (nI too))]) hx hb d_M_go_114 hl (by decide) rfl (fun ls hl => ?_)
                              refine lv_iload hx hb d_M_go_116 (lv_at hl 4 rfl) ?_
                              refine lv_if_eq (tgt := 133) hx hb d_M_go_118 (by decide) (fun c_19 => ?_) (fun c_19 => ?_)
                              · have c_19 := bI_z.mp c_19
                                refine lv_aload_n hx hb d_M_go_133 rfl (lv_at hl 5 rfl) ?_
                                refine va_get (D := (dC, dI)) (ci := 1) (v := .ref a4) (C := R_M) (T := F_M) (N := 8) hx hb htB in_M hown hK hP 0 rfl rfl 6 (by decide) (htB _ hfl_M_20) (fun _ h9 => h9) rfl d_M_go_134 ?_
                                refine lv_iload hx hb d_M_go_137 (lv_at hl 1 rfl) ?_
                                refine va_zald hx hb hK hP 4 1 rfl rfl (vp_in_nI (n := frm + d) (by omega) (by decide)) d_M_go_139 ?_
                                refine lv_topi (fun v_20 ev_20 => ?_)
                                obtain rfl : v_20 = bI (F (frm + d)) := (show v_20 = av (frm + d) from ev_20.trans (by rw [nI_clamp (n := frm + d) (by omega)])).trans (hav (frm + d) (by omega))
                                refine lv_if_eq (tgt := 176) hx hb d_M_go_140 (by decide) (fun c_21 => ?_) (fun c_21 => ?_)
                                · have c_21 := bI_z.mp c_21
                                  refine lv_iinc (v := nI (frm + d + 1)) (lv' := [(7, .int (nI (frm + d + 1))), (6, .int (nI 1)), (3, .int (nI a)), (4, .int (oI (cl pt qt pn a))), (5, .int (bI (iu pt qt pn a (nI 42)))), (0, .ref h0), (1, .int (nI frm)), (2, .int (nI too))]) hx hb d_M_go_176 hl (k := 1) rfl (nI_add _ 1) (by decide) rfl (fun ls hl => ?_)
                                  refine lv_goto (tgt := 88) hx hb d_M_go_179 (by decide) ?_
                                  have hs9 : sbB F frm (d + 1) = true := by
                                    show (sbB F frm d || F (frm + d)) = _
                                    first | (rw [‹sbB F frm d = true›]; rfl) | (rw [‹F (frm + d) = true›, Bool.or_true])
                                  exact ih3 (d + 1) _ _ _ (by omega) (by omega) (by omega) (NB_miss ‹_› (by first | exact Or.inl ‹_› | exact Or.inr (Or.inl (by omega)) | exact Or.inr (Or.inr ‹_›)) hN) hP hD hS ls (by rw [hs9]; exact (lv_sub hl [0, 1, 2, 3, 4, 5, 6, 7] rfl))
                                · have c_21 := bI_nz.mp c_21
                                  refine lv_iload hx hb d_M_go_143 (lv_at hl 1 rfl) ?_
                                  refine lv_iload_n hx hb d_M_go_145 rfl (lv_at hl 7 rfl) ?_
                                  refine lv_icmp_ge (tgt := 176) hx hb d_M_go_146 (by decide) (fun c_22 => ?_) (fun c_22 => ?_)
                                  · have c_22 := (nI_leI (by omega) (by omega)).mp c_22
                                    refine lv_iinc (v := nI (frm + d + 1)) (lv' := [(7, .int (nI (frm + d + 1))), (6, .int (nI 1)), (3, .int (nI a)), (4, .int (oI (cl pt qt pn a))), (5, .int (bI (iu pt qt pn a (nI 42)))), (0, .ref h0), (1, .int (nI frm)), (2, .int (nI too))]) hx hb d_M_go_176 hl (k := 1) rfl (nI_add _ 1) (by decide) rfl (fun ls hl => ?_)
                                    refine lv_goto (tgt := 88) hx hb d_M_go_179 (by decide) ?_
                                    have hs9 : sbB F frm (d + 1) = true := by
                                      show (sbB F frm d || F (frm + d)) = _
                                      first | (rw [‹sbB F frm d = true›]; rfl) | (rw [‹F (frm + d) = true›, Bool.or_true])
                                    exact ih3 (d + 1) _ _ _ (by omega) (by omega) (by omega) (NB_miss ‹_› (by first | exact Or.inl ‹_› | exact Or.inr (Or.inl (by omega)) | exact Or.inr (Or.inr ‹_›)) hN) hP hD hS ls (by rw [hs9]; exact (lv_sub hl [0, 1, 2, 3, 4, 5, 6, 7] rfl))
                                  · have c_22 := mt (nI_leI (by omega) (by omega)).mpr c_22
                                    refine lv_aload_n hx hb d_M_go_149 rfl (lv_at hl 5 rfl) ?_
                                    refine lv_iload_n hx hb d_M_go_150 rfl (lv_at hl 2 rfl) ?_
                                    refine lv_iload hx hb d_M_go_151 (lv_at hl 3 rfl) ?_
                                    refine lv_aload_n hx hb d_M_go_153 rfl (lv_at hl 5 rfl) ?_
                                    refine va_get (D := (dC, dI)) (ci := 1) (v := .ref a1) (C := R_M) (T := F_M) (N := 8) hx hb htB in_M hown hK hP 0 rfl rfl 1 (by decide) (htB _ hfl_M_7) (fun _ h9 => h9) rfl d_M_go_154 ?_
                                    refine lv_iload hx hb d_M_go_157 (lv_at hl 1 rfl) ?_
                                    refine va_iald hx hb hK hP 1 0 rfl rfl (vp_in_nI (n := frm + d) (by omega) (by decide)) d_M_go_159 ?_
                                    refine lv_topi (fun v_23 ev_23 => ?_)
                                    obtain rfl : v_23 = tx (frm + d) := ev_23.trans (by rw [nI_clamp (n := frm + d) (by omega)])
                                    refine r_M_takes hp (by omega) (fun k q => by have := cl_in q; omega) hx hb hml hown htB hK hP hl.1 (Nat.le_of_ble_eq_true rfl) ⟨Nat.le_of_ble_eq_true rfl, Nat.le_of_ble_eq_true rfl⟩ ⟨Nat.zero_le _, Nat.zero_le _⟩ d_M_go_160 ?_
                                    refine lv_if_eq (tgt := 176) hx hb d_M_go_163 (by decide) (fun c_24 => ?_) (fun c_24 => ?_)
                                    · have c_24 := bI_z.mp c_24
                                      refine lv_iinc (v := nI (frm + d + 1)) (lv' := [(7, .int (nI (frm + d + 1))), (6, .int (nI 1)), (3, .int (nI a)), (4, .int (oI (cl pt qt pn a))), (5, .int (bI (iu pt qt pn a (nI 42)))), (0, .ref h0), (1, .int (nI frm)), (2, .int (nI too))]) hx hb d_M_go_176 hl (k := 1) rfl (nI_add _ 1) (by decide) rfl (fun ls hl => ?_)
                                      refine lv_goto (tgt := 88) hx hb d_M_go_179 (by decide) ?_
                                      have hs9 : sbB F frm (d + 1) = true := by
                                        show (sbB F frm d || F (frm + d)) = _
                                        first | (rw [‹sbB F frm d = true›]; rfl) | (rw [‹F (frm + d) = true›, Bool.or_true])
                                      exact ih3 (d + 1) _ _ _ (by omega) (by omega) (by omega) (NB_miss ‹_› (by first | exact Or.inl ‹_› | exact Or.inr (Or.inl (by omega)) | exact Or.inr (Or.inr ‹_›)) hN) hP hD hS ls (by rw [hs9]; exact (lv_sub hl [0, 1, 2, 3, 4, 5, 6, 7] rfl))
                                    · have c_24 := bI_nz.mp c_24
                                      refine lv_aload_n hx hb d_M_go_166 rfl (lv_at hl 5 rfl) ?_
                                      refine va_get (D := (dC, dI)) (ci := 1) (v := .ref a5) (C := R_M) (T := F_M) (N := 8) hx hb htB in_M hown hK hP 0 rfl rfl 7 (by decide) (htB _ hfl_M_23) (fun _ h9 => h9) rfl d_M_go_167 ?_
                                      refine lv_iload hx hb d_M_go_170 (lv_at hl 1 rfl) ?_
                                      refine lv_iconst (v := nI 1) hx hb d_M_go_172 (by decide) ?_
                                      refine lv_iadd hx hb d_M_go_173 ?_
                                      refine lv_topi (fun v_25 ev_25 => ?_)
                                      obtain rfl : v_25 = nI (frm + d + 1) := ev_25.trans (nI_add _ _)
                                      refine lv_iconst (v := nI 1) hx hb d_M_go_174 (by decide) ?_
                                      refine va_zast hx hb hK hP hD hS 5 1 rfl rfl (vp_in_nI (n := frm + d + 1) (by omega) (by decide)) d_M_go_175 (fun H locs hP hD hS => ?_)
                                      rw [nI_clamp (n := frm + d + 1) (by omega), show vp_nar .boolean (nI 1) = nI 1 from rfl] at hP hD
                                      have hP : va_P (dC, dI) classes (wM h0 a1 a2 a3 a4 a5 cI cZ cd tx pt qt av (upd nv (frm + d + 1) (nI 1)) tn pn) H := hP
                                      have hD : va_D A (wM h0 a1 a2 a3 a4 a5 cI cZ cd tx pt qt av (upd nv (frm + d + 1) (nI 1)) tn pn) := hD
                                      refine lv_iinc (v := nI (frm + d + 1)) (lv' := [(7, .int (nI (frm + d + 1))), (6, .int (nI 1)), (3, .int (nI a)), (4, .int (oI (cl pt qt pn a))), (5, .int (bI (iu pt qt pn a (nI 42)))), (0, .ref h0), (1, .int (nI frm)), (2, .int (nI too))]) hx hb d_M_go_176 hl (k := 1) rfl (nI_add _ 1) (by decide) rfl (fun ls hl => ?_)
                                      refine lv_goto (tgt := 88) hx hb d_M_go_179 (by decide) ?_
                                      have hs9 : sbB F frm (d + 1) = true := by
                                        show (sbB F frm d || F (frm + d)) = _
                                        first | (rw [‹sbB F frm d = true›]; rfl) | (rw [‹F (frm + d) = true›, Bool.or_true])
                                      exact ih3 (d + 1) _ _ _ (by omega) (by omega) (by omega) (NB_hit ‹_› ‹_› (by omega) ‹_› hN) hP hD hS ls (by rw [hs9]; exact (lv_sub hl [0, 1, 2, 3, 4, 5, 6, 7] rfl))
                              · have c_19 := bI_nz.mp c_19
                                refine lv_aload_n hx hb d_M_go_121 rfl (lv_at hl 5 rfl) ?_
                                refine va_get (D := (dC, dI)) (ci := 1) (v := .ref a5) (C := R_M) (T := F_M) (N := 8) hx hb htB in_M hown hK hP 0 rfl rfl 7 (by decide) (htB _ hfl_M_23) (fun _ h9 => h9) rfl d_M_go_122 ?_
                                refine lv_iload hx hb d_M_go_125 (lv_at hl 1 rfl) ?_
                                refine lv_iload hx hb d_M_go_127 (lv_at hl 0 rfl) ?_
                                refine va_zast hx hb hK hP hD hS 5 1 rfl rfl (vp_in_nI (n := frm + d) (by omega) (by decide)) d_M_go_129 (fun H locs hP hD hS => ?_)
                                rw [nI_clamp (n := frm + d) (by omega), show vp_nar .boolean (nI 1) = nI 1 from rfl] at hP hD
                                have hP : va_P (dC, dI) classes (wM h0 a1 a2 a3 a4 a5 cI cZ cd tx pt qt av (upd nv (frm + d) (nI 1)) tn pn) H := hP
                                have hD : va_D A (wM h0 a1 a2 a3 a4 a5 cI cZ cd tx pt qt av (upd nv (frm + d) (nI 1)) tn pn) := hD
                                refine lv_goto (tgt := 176) hx hb d_M_go_130 (by decide) ?_
                                refine lv_iinc (v := nI (frm + d + 1)) (lv' := [(7, .int (nI (frm + d + 1))), (6, .int (nI 1)), (3, .int (nI a)), (4, .int (oI (cl pt qt pn a))), (5, .int (bI (iu pt qt pn a (nI 42)))), (0, .ref h0), (1, .int (nI frm)), (2, .int (nI too))]) hx hb d_M_go_176 hl (k := 1) rfl (nI_add _ 1) (by decide) rfl (fun ls hl => ?_)
                                refine lv_goto (tgt := 88) hx hb d_M_go_179 (by decide) ?_
                                have hs9 : sbB F frm (d + 1) = true := by
                                  show (sbB F frm d || F (frm + d)) = _
                                  first | (rw [‹sbB F frm d = true›]; rfl) | (rw [‹F (frm + d) = true›, Bool.or_true])
                                exact ih3 (d + 1) _ _ _ (by omega) (by omega) (by omega) (NB_star (v := true) ‹_› hs9.symm hN) hP hD hS ls (by rw [hs9]; exact (lv_sub hl [0, 1, 2, 3, 4, 5, 6, 7] rfl))
                    exact L88 1001 0 _ _ _ (by omega) (by omega) (by omega) (fun j q => by rw [NB_0]; exact hE2 j (by omega) q) hP hD hS ls (lv_sub hl [0, 1, 2, 3, 4, 5, 6, 7] rfl)
                  · have c_1 := mt (nI_ltI (by omega) (by omega)).mpr c_1
                    refine lv_aload_n hx hb d_M_go_68 rfl (lv_at hl 4 rfl) ?_
                    refine va_get (D := (dC, dI)) (ci := 1) (v := .ref a5) (C := R_M) (T := F_M) (N := 8) hx hb htB in_M hown hK hP 0 rfl rfl 7 (by decide) (htB _ hfl_M_23) (fun _ h9 => h9) rfl d_M_go_69 ?_
                    refine lv_iload hx hb d_M_go_72 (lv_at hl 0 rfl) ?_
                    refine lv_iconst (v := nI 0) hx hb d_M_go_74 (by decide) ?_
                    refine va_zast hx hb hK hP hD hS 5 1 rfl rfl (vp_in_nI (n := j2) (by omega) (by decide)) d_M_go_75 (fun H locs hP hD hS => ?_)
                    rw [nI_clamp (n := j2) (by omega), show vp_nar .boolean (nI 0) = nI 0 from rfl] at hP hD
                    have hP : va_P (dC, dI) classes (wM h0 a1 a2 a3 a4 a5 cI cZ cd tx pt qt av (upd nw j2 (nI 0)) tn pn) H := hP
                    have hD : va_D A (wM h0 a1 a2 a3 a4 a5 cI cZ cd tx pt qt av (upd nw j2 (nI 0)) tn pn) := hD
                    refine lv_iinc (v := nI (j2 + 1)) (lv' := [(6, .int (nI (j2 + 1))), (3, .int (nI a)), (4, .int (oI (cl pt qt pn a))), (5, .int (bI (iu pt qt pn a (nI 42)))), (0, .ref h0), (1, .int (nI frm)), (2, .int (nI too))]) hx hb d_M_go_76 hl (k := 0) rfl (nI_add _ 1) (by decide) rfl (fun ls hl => ?_)
                    refine lv_goto (tgt := 60) hx hb d_M_go_79 (by decide) ?_
                    refine ih2 (j2 + 1) _ _ _ (by omega) (by omega) (fun j q1 q2 => ?_) hP hD hS ls (lv_sub hl [0, 1, 2, 3, 4, 5, 6] rfl)
                    by_cases q : j = j2
                    · subst q; rw [pk_us]; rfl
                    · rw [pk_un q]; exact hE2 j (by omega) q2
              exact L60 1001 0 _ _ _ (by omega) (by omega) (fun j q => absurd q (by omega)) hP hD hS ls (lv_sub hl [0, 3, 2, 1, 4, 5, 6] rfl)
        exact L33 (pn + 1) 0 (fB frm) _ _ _ _ (by omega) (by omega) rfl (fun j q => hE1 j (by omega) q) hP hD hS ls (lv_sub hl [0, 1, 2, 3] rfl)
      · have c_1 := mt (nI_ltI (by omega) (by omega)).mpr c_1
        refine lv_aload_n hx hb d_M_go_9 rfl (lv_at hl 1 rfl) ?_
        refine va_get (D := (dC, dI)) (ci := 1) (v := .ref a4) (C := R_M) (T := F_M) (N := 8) hx hb htB in_M hown hK hP 0 rfl rfl 6 (by decide) (htB _ hfl_M_20) (fun _ h9 => h9) rfl d_M_go_10 ?_
        refine lv_iload_n hx hb d_M_go_13 rfl (lv_at hl 0 rfl) ?_
        refine lv_iload_n hx hb d_M_go_14 rfl (lv_at hl 0 rfl) ?_
        refine lv_iload_n hx hb d_M_go_15 rfl (lv_at hl 2 rfl) ?_
        refine lv_icmp_ne (tgt := 23) hx hb d_M_go_16 (by decide) (fun c_2 => ?_) (fun c_2 => ?_)
        · have c_2 := mt (nI_eq (by omega) (by omega)).mpr c_2
          refine lv_iconst (v := nI 0) hx hb d_M_go_23 (by decide) ?_
          refine va_zast hx hb hK hP hD hS 4 1 rfl rfl (vp_in_nI (n := i) (by omega) (by decide)) d_M_go_24 (fun H locs hP hD hS => ?_)
          rw [nI_clamp (n := i) (by omega), show vp_nar .boolean (nI 0) = nI 0 from rfl] at hP hD
          have hP : va_P (dC, dI) classes (wM h0 a1 a2 a3 a4 a5 cI cZ cd tx pt qt (upd av i (nI 0)) nr tn pn) H := hP
          have hD : va_D A (wM h0 a1 a2 a3 a4 a5 cI cZ cd tx pt qt (upd av i (nI 0)) nr tn pn) := hD
          refine lv_iinc (v := nI (i + 1)) (lv' := [(3, .int (nI (i + 1))), (0, .ref h0), (1, .int (nI frm)), (2, .int (nI too))]) hx hb d_M_go_25 hl (k := 0) rfl (nI_add _ 1) (by decide) rfl (fun ls hl => ?_)
          refine lv_goto (tgt := 2) hx hb d_M_go_28 (by decide) ?_
          refine ih1 (i + 1) _ _ _ (by omega) (by omega) (fun j q1 q2 => ?_) hP hD hS ls (lv_sub hl [0, 1, 2, 3] rfl)
          by_cases q : j = i
          · subst q; rw [pk_us]; unfold fB; rw [decide_eq_false (by omega)]; rfl
          · rw [pk_un q]; exact hE1 j (by omega) q2
        · have c_2 := (nI_eq (by omega) (by omega)).mp c_2
          refine lv_iconst (v := nI 1) hx hb d_M_go_19 (by decide) ?_
          refine lv_goto (tgt := 24) hx hb d_M_go_20 (by decide) ?_
          refine va_zast hx hb hK hP hD hS 4 1 rfl rfl (vp_in_nI (n := i) (by omega) (by decide)) d_M_go_24 (fun H locs hP hD hS => ?_)
          rw [nI_clamp (n := i) (by omega), show vp_nar .boolean (nI 1) = nI 1 from rfl] at hP hD
          have hP : va_P (dC, dI) classes (wM h0 a1 a2 a3 a4 a5 cI cZ cd tx pt qt (upd av i (nI 1)) nr tn pn) H := hP
          have hD : va_D A (wM h0 a1 a2 a3 a4 a5 cI cZ cd tx pt qt (upd av i (nI 1)) nr tn pn) := hD
          refine lv_iinc (v := nI (i + 1)) (lv' := [(3, .int (nI (i + 1))), (0, .ref h0), (1, .int (nI frm)), (2, .int (nI too))]) hx hb d_M_go_25 hl (k := 0) rfl (nI_add _ 1) (by decide) rfl (fun ls hl => ?_)
          refine lv_goto (tgt := 2) hx hb d_M_go_28 (by decide) ?_
          refine ih1 (i + 1) _ _ _ (by omega) (by omega) (fun j q1 q2 => ?_) hP hD hS ls (lv_sub hl [0, 1, 2, 3] rfl)
          by_cases q : j = i
          · subst q; rw [pk_us]; unfold fB; rw [decide_eq_true (by omega)]; rfl
          · rw [pk_un q]; exact hE1 j (by omega) q2
  refine lv_iconst (v := nI 0) hx hb d_M_go_0 (by decide) ?_
  refine lv_istore_n (lv' := [(3, .int (nI 0)), (0, .ref h0), (1, .int (nI frm)), (2, .int (nI too))]) hx hb d_M_go_1 rfl hl (by decide) rfl (fun ls hl => ?_)
  exact L2 1001 0 _ _ _ (by omega) (by omega) (fun j q => absurd q (by omega)) hP hD hS ls (lv_sub hl [0, 1, 2, 3] rfl)

theorem r_M_go {p : Program} {l : Launch} {e : Env} {R : Room} {s : State} {mm : MethodId} {args : Array Value} {below : List Frame} {meth : Method} {c : Code} {H : Heap} {locs : List Loc} {cells slots : Nat} {Q : State → Prop} {cc : ByteArray} {pcn nL : Nat} {ls : Array Slot} {rest : List Value} {dC : Nat → ClassId} {dI : Nat → Nat → Nat} {h0 a1 a2 a3 a4 a5 : Nat} {cI cZ : ClassId} {cd : Int32} {tx pt qt ar nr : Nat → Int32} {tn pn : Nat} {A : Nat → Prop} {H0 : Heap} (hp : pn ≤ 200) {frm too : Nat} (hft : frm ≤ too) (ht4 : too ≤ 400) (hx : p.tables.exec = Jvm.exec) (hb : c.code = cc) (hml : c.maxLocals = nL) (hown : s.vm.findClass R_M = some mm.cls) (htB : ∀ w ∈ wB, w.before args s = true) (hK : va_K (dC, dI) classes (tyIZ cI cZ) s) (hP : va_P (dC, dI) classes (wM h0 a1 a2 a3 a4 a5 cI cZ cd tx pt qt ar nr tn pn) H) (hD : va_D A (wM h0 a1 a2 a3 a4 a5 cI cZ cd tx pt qt ar nr tn pn)) (hS : va_S A H0 H locs) (hA : ∀ q : Nat, H0.size ≤ q → A q) (hls : ls.size = nL) (hre : (rest.map fun v => v.category).sum ≤ 8) (hR : 3 + 1 ≤ R.frames ∧ 8 + (8 + 11) + 74 ≤ R.locals) (hce : cells ≤ R.cells ∧ slots ≤ R.slots) (hd : decode cc pcn = .ok (.invokevirtual 53, 3)) (kk : ∀ (u : (Nat → Int32) × (Nat → Int32)) (H1 : Heap) (locs1 : List Loc), (∀ j, j ≤ 400 → u.1 j = bI (mM tx pt qt pn frm too j)) → va_P (dC, dI) classes (wM h0 a1 a2 a3 a4 a5 cI cZ cd tx pt qt u.1 u.2 tn pn) H1 → va_D A (wM h0 a1 a2 a3 a4 a5 cI cZ cd tx pt qt u.1 u.2 tn pn) → va_S A H0 H1 locs1 → W p l e R s mm args below meth c H1 locs1 cells slots Q (F0 mm (pcn + 3) ls (rest))) : W p l e R s mm args below meth c H locs cells slots Q (F0 mm pcn ls (.int (nI too) :: .int (nI frm) :: .ref h0 :: rest)) := by
  have hFc := va_free (wc := (wM h0 a1 a2 a3 a4 a5 cI cZ cd tx pt qt ar nr tn pn)) hD hS hA [0, 1, 2, 3, 4, 5] rfl
  refine va_callv (va_runV (As := [.int (nI frm), .int (nI too)]) (rest := rest) ⟨hx, hb, hml, hown, htB⟩ (c_M_go l dC dI h0 a1 a2 a3 a4 a5 cI cZ cd tx pt qt ar nr tn pn H.size hp frm too hft ht4) (cwV 2 htB (gV hml_M_53 hinm_M_go hsel_M_go hini_M hco_M_go) rfl rfl rfl (by decide +kernel) hR) ⟨fun a U g mk q => by obtain ⟨q0, q1, qP, qK, qD⟩ := q; exact ⟨q0, q1, qP, va_K.moved (u := U) (U := U.calling g mk a) (Vm.Alike.refl U.vm) qK, qD⟩, va_recv hK hP (ci := 1) (q0 := 0) rfl rfl, fun U hU hW => ⟨rfl, by rw [hU], by rw [hU]; exact hP, va_K.moved hW.alike hK, hD.weaken (fun _ _ _ _ => trivial)⟩⟩ rfl rfl hls rfl (lv_room hre) hd ⟨hce.1, hce.2⟩) hS (fun q _ h => hFc q h) hFc (fun u t H1 locs1 ht hvm hw hB hz1 hk1 hS1 => ?_)
  obtain ⟨hP1, hK1, hD1⟩ := hB
  rw [ht] at hP1
  have hj := va_join (wr := []) (w1 := (wM h0 a1 a2 a3 a4 a5 cI cZ cd tx pt qt u.1 u.2 tn pn)) hP hD [0, 1, 2, 3, 4, 5] [] rfl rfl (by decide) (by decide) hk1 hFc hP1 hD1
  exact kk u H1 locs1 hw hj.1 hj.2 hS1
end
section
/-! the reference: its public methods: by wip/whole/gen/gen22.py -/
set_option maxHeartbeats 4000000 in
set_option maxRecDepth 100000 in
theorem c_M_text (l : Launch) (dC : Nat → ClassId) (dI : Nat → Nat → Nat) (h0 a1 a2 a3 a4 a5 : Nat) (cI cZ : ClassId) (cd : Int32) (tx pt qt ar nr : Nat → Int32) (tn pn : Nat) (sz : Nat) (ht : tn ≤ 400) (x : Int64) (n : Int32) : Met l y_M_text (.code y_M_text b_M_text 5 (some .int) :: wB) (Rm 0 0) (va_Pc [.ref h0, .long x, .int n] (fun U => U.heap.size = sz ∧ va_P (dC, dI) classes (wM h0 a1 a2 a3 a4 a5 cI cZ cd tx pt qt ar nr tn pn) U.heap ∧ va_K (dC, dI) classes (tyIZ cI cZ) U ∧ va_D (fun _ => True) (wM h0 a1 a2 a3 a4 a5 cI cZ cd tx pt qt ar nr tn pn))) (va_Qi (fun (r : Int32) (u : (Nat → Int32) × Nat) => r = teR tn 400 n ∧ u = (teT tx tn 400 x n, teN tn 400 n)) (fun (u : (Nat → Int32) × Nat) (t : State) => va_P (dC, dI) classes (wM h0 a1 a2 a3 a4 a5 cI cZ ((nI 0)) u.1 pt qt ar nr u.2 pn) t.heap ∧ va_K (dC, dI) classes (tyIZ cI cZ) t ∧ va_D (va_A (wM h0 a1 a2 a3 a4 a5 cI cZ cd tx pt qt ar nr tn pn) sz) (wM h0 a1 a2 a3 a4 a5 cI cZ ((nI 0)) u.1 pt qt ar nr u.2 pn)) (va_A (wM h0 a1 a2 a3 a4 a5 cI cZ cd tx pt qt ar nr tn pn) sz)) 0 0 (va_A (wM h0 a1 a2 a3 a4 a5 cI cZ cd tx pt qt ar nr tn pn) sz) := by
  refine Met.ofW (cc := b_M_text) (maxL := 5) (ret := (some .int)) (by decide) rfl ?_
  intro p e s mm args below meth c s₁ B hml hv
  obtain ⟨rfl, hsz, hP, hK, hD0⟩ := hv
  have hx := B.exec
  have hb := B.bytes
  have hr := B.returns
  have hts := atoms_spec (ws := (.code y_M_text b_M_text 5 (some .int) :: wB)) B.pre
  have htB : ∀ w ∈ wB, w.before _ s = true := fun w h => hts w (List.mem_cons_of_mem _ h)
  have hown : s.vm.findClass R_M = some mm.cls := findClass_of_methodNamed B.named
  have hlocks := B.notSynchronized
  subst hsz
  have hD := hD0.self (sz := s.heap.size)
  generalize hAe : va_A (wM h0 a1 a2 a3 a4 a5 cI cZ cd tx pt qt ar nr tn pn) s.heap.size = A at hD ⊢
  have hA : ∀ q : Nat, s.heap.size ≤ q → A q := fun q h => by rw [← hAe]; exact Or.inr h
  have hS : va_S A s.heap s.heap [] := va_S.rf
  have hP : va_P (dC, dI) classes (wM h0 a1 a2 a3 a4 a5 cI cZ cd tx pt qt ar nr tn pn) s.heap := hP
  have hl := lv_entry ([.ref h0, .long x, .int n]) (n := 5) (Nat.le_of_ble_eq_true rfl)
  rw [lg_entry_eq]
  generalize (lg_sl ([.ref h0, .long x, .int n]) ++ List.replicate (5 - (lg_sl ([.ref h0, .long x, .int n])).length) Slot.unset).toArray = ls at hl ⊢
  have hl : lv_has ls 5 [(0, .ref h0), (1, .long x), (3, .int n)] := hl
  refine lv_aload_n hx hb d_M_text_0 rfl (lv_at hl 0 rfl) ?_
  refine lv_iconst (v := nI 0) hx hb d_M_text_1 (by decide) ?_
  refine va_put (D := (dC, dI)) (ci := 1) (v := .int (nI 0)) (ty := .int) (C := R_M) (T := F_M) (N := 8) hx hb htB in_M t_M t_M_ok n_M hown hK hP hD hS 0 rfl rfl 0 (by decide) (htB _ hfl_M_26) (fun _ h9 => h9) rfl (by decide +kernel) rfl rfl (Nat.le_of_ble_eq_true rfl) d_M_text_2 (fun H locs hP hD hS => ?_)
  have hP : va_P (dC, dI) classes (wM h0 a1 a2 a3 a4 a5 cI cZ (nI 0) tx pt qt ar nr tn pn) H := hP
  have hD : va_D A (wM h0 a1 a2 a3 a4 a5 cI cZ (nI 0) tx pt qt ar nr tn pn) := hD
  refine lv_iload_n hx hb d_M_text_5 rfl (lv_at hl 2 rfl) ?_
  refine lv_if_lt (tgt := 27) hx hb d_M_text_6 (by decide) (fun c_1 => ?_) (fun c_1 => ?_)
  · refine lv_iconst (v := -1) hx hb d_M_text_27 (by decide) ?_
    have hno : hrm tn 400 n = false := by first | exact hrm_a ‹_› | exact hrm_b ‹_› | exact hrm_x hj ‹_›
    exact W.iret (v := -1) hx hb hr (fun t ht hW => ⟨⟨_, (tx, tn), rfl, ⟨by unfold teR; rw [if_neg (by rw [hno]; decide)], by unfold teT teN; rw [if_neg (show ¬ hrm tn 400 n = true by rw [hno]; decide), if_neg (show ¬ hrm tn 400 n = true by rw [hno]; decide)]⟩, by rw [ht]; exact hP, va_K.moved hW.alike hK, hD⟩, hS.F ht⟩) hS.2.2 d_M_text_28
  · refine lv_iload_n hx hb d_M_text_9 rfl (lv_at hl 2 rfl) ?_
    refine lv_bipush (v := nI 8) hx hb d_M_text_10 (by decide) ?_
    refine lv_icmp_gt (tgt := 27) hx hb d_M_text_12 (by decide) (fun c_2 => ?_) (fun c_2 => ?_)
    · refine lv_iconst (v := -1) hx hb d_M_text_27 (by decide) ?_
      have hno : hrm tn 400 n = false := by first | exact hrm_a ‹_› | exact hrm_b ‹_› | exact hrm_x hj ‹_›
      exact W.iret (v := -1) hx hb hr (fun t ht hW => ⟨⟨_, (tx, tn), rfl, ⟨by unfold teR; rw [if_neg (by rw [hno]; decide)], by unfold teT teN; rw [if_neg (show ¬ hrm tn 400 n = true by rw [hno]; decide), if_neg (show ¬ hrm tn 400 n = true by rw [hno]; decide)]⟩, by rw [ht]; exact hP, va_K.moved hW.alike hK, hD⟩, hS.F ht⟩) hS.2.2 d_M_text_28
    · obtain ⟨j, hj, rfl⟩ := hrm_j c_1 c_2
      refine lv_aload_n hx hb d_M_text_15 rfl (lv_at hl 0 rfl) ?_
      refine va_get (D := (dC, dI)) (ci := 1) (v := .int (nI tn)) (C := R_M) (T := F_M) (N := 8) hx hb htB in_M hown hK hP 0 rfl rfl 4 (by decide) (htB _ hfl_M_30) (fun _ h9 => h9) rfl d_M_text_16 ?_
      refine lv_iload_n hx hb d_M_text_19 rfl (lv_at hl 2 rfl) ?_
      refine lv_iadd hx hb d_M_text_20 ?_
      refine lv_topi (fun v_3 ev_3 => ?_)
      obtain rfl : v_3 = nI (tn + j) := ev_3.trans (nI_add _ _)
      refine lv_sipush (v := nI 400) hx hb d_M_text_21 (by decide) ?_
      refine lv_icmp_le (tgt := 29) hx hb d_M_text_24 (by decide) (fun c_4 => ?_) (fun c_4 => ?_)
      · have c_4 := (nI_leI (by omega) (by omega)).mp c_4
        refine lv_iconst (v := nI 0) hx hb d_M_text_29 (by decide) ?_
        refine lv_istore (lv' := [(4, .int (nI 0)), (0, .ref h0), (1, .long x), (3, .int (nI j))]) hx hb d_M_text_30 hl (by decide) rfl (fun ls hl => ?_)
        have hcj : (nI j).toNatClampNeg = j := nI_clamp (by omega)
        have hy := hrm_y (ln := tn) (lim := 400) hj (by omega)
        have loop : ∀ (n i : Nat) (H : Heap) (locs : List Loc), i ≤ 1000 → 1000 < i + n → i ≤ j → va_P (dC, dI) classes (wM h0 a1 a2 a3 a4 a5 cI cZ (nI 0) (ap tx tn x j i) pt qt ar nr tn pn) H → va_D A (wM h0 a1 a2 a3 a4 a5 cI cZ (nI 0) (ap tx tn x j i) pt qt ar nr tn pn) → va_S A s.heap H locs → ∀ ls : Array Slot, lv_has ls 5 [(4, .int (nI i)), (0, .ref h0), (1, .long x), (3, .int (nI j))] → W p l e (Rm 0 0) s mm [.ref h0, .long x, .int (nI j)].toArray below meth c H locs 0 0 (MQ below (va_Qi (fun (r : Int32) (u : (Nat → Int32) × Nat) => r = teR tn 400 (nI j) ∧ u = (teT tx tn 400 x (nI j), teN tn 400 (nI j))) (fun (u : (Nat → Int32) × Nat) (t : State) => va_P (dC, dI) classes (wM h0 a1 a2 a3 a4 a5 cI cZ ((nI 0)) u.1 pt qt ar nr u.2 pn) t.heap ∧ va_K (dC, dI) classes (tyIZ cI cZ) t ∧ va_D A (wM h0 a1 a2 a3 a4 a5 cI cZ ((nI 0)) u.1 pt qt ar nr u.2 pn)) A) [.ref h0, .long x, .int (nI j)].toArray s 0 0 A) (F0 mm 32 ls []) := by
          intro n
          induction n with
          | zero => intro i H locs h1 h2; exact absurd h2 (by omega)
          | succ n ih =>
            intro i H locs hi hn hij hP hD hS ls hl
            refine lv_iload hx hb d_M_text_32 (lv_at hl 0 rfl) ?_
            refine lv_iload_n hx hb d_M_text_34 rfl (lv_at hl 3 rfl) ?_
            refine lv_icmp_ge (tgt := 72) hx hb d_M_text_35 (by decide) (fun c_1 => ?_) (fun c_1 => ?_)
            · have c_1 := (nI_leI (by omega) (by omega)).mp c_1
              refine lv_aload_n hx hb d_M_text_72 rfl (lv_at hl 1 rfl) ?_
              refine lv_dup hx hb d_M_text_73 rfl ?_
              refine va_get (D := (dC, dI)) (ci := 1) (v := .int (nI tn)) (C := R_M) (T := F_M) (N := 8) hx hb htB in_M hown hK hP 0 rfl rfl 4 (by decide) (htB _ hfl_M_30) (fun _ h9 => h9) rfl d_M_text_74 ?_
              refine lv_iload_n hx hb d_M_text_77 rfl (lv_at hl 3 rfl) ?_
              refine lv_iadd hx hb d_M_text_78 ?_
              refine lv_topi (fun v_2 ev_2 => ?_)
              obtain rfl : v_2 = nI (tn + j) := ev_2.trans (nI_add _ _)
              refine va_put (D := (dC, dI)) (ci := 1) (v := .int (nI (tn + j))) (ty := .int) (C := R_M) (T := F_M) (N := 8) hx hb htB in_M t_M t_M_ok n_M hown hK hP hD hS 0 rfl rfl 4 (by decide) (htB _ hfl_M_30) (fun _ h9 => h9) rfl (by decide +kernel) rfl rfl (Nat.le_of_ble_eq_true rfl) d_M_text_79 (fun H locs hP hD hS => ?_)
              have hP : va_P (dC, dI) classes (wM h0 a1 a2 a3 a4 a5 cI cZ (nI 0) (ap tx tn x j i) pt qt ar nr (tn + j) pn) H := hP
              have hD : va_D A (wM h0 a1 a2 a3 a4 a5 cI cZ (nI 0) (ap tx tn x j i) pt qt ar nr (tn + j) pn) := hD
              refine lv_aload_n hx hb d_M_text_82 rfl (lv_at hl 1 rfl) ?_
              refine va_get (D := (dC, dI)) (ci := 1) (v := .int (nI (tn + j))) (C := R_M) (T := F_M) (N := 8) hx hb htB in_M hown hK hP 0 rfl rfl 4 (by decide) (htB _ hfl_M_30) (fun _ h9 => h9) rfl d_M_text_83 ?_
              exact W.iret (v := nI (tn + j)) hx hb hr (fun t ht hW => ⟨⟨_, (ap tx tn x j i, tn + j), rfl, ⟨by unfold teR; rw [if_pos hy, hcj], by unfold teT teN; rw [if_pos hy, if_pos hy, hcj, show i = j by omega]⟩, by rw [ht]; exact hP, va_K.moved hW.alike hK, hD⟩, hS.F ht⟩) hS.2.2 d_M_text_86
            · have c_1 := mt (nI_leI (by omega) (by omega)).mpr c_1
              refine lv_aload_n hx hb d_M_text_38 rfl (lv_at hl 1 rfl) ?_
              refine va_get (D := (dC, dI)) (ci := 1) (v := .ref a1) (C := R_M) (T := F_M) (N := 8) hx hb htB in_M hown hK hP 0 rfl rfl 1 (by decide) (htB _ hfl_M_7) (fun _ h9 => h9) rfl d_M_text_39 ?_
              refine lv_aload_n hx hb d_M_text_42 rfl (lv_at hl 1 rfl) ?_
              refine va_get (D := (dC, dI)) (ci := 1) (v := .int (nI tn)) (C := R_M) (T := F_M) (N := 8) hx hb htB in_M hown hK hP 0 rfl rfl 4 (by decide) (htB _ hfl_M_30) (fun _ h9 => h9) rfl d_M_text_43 ?_
              refine lv_iload hx hb d_M_text_46 (lv_at hl 0 rfl) ?_
              refine lv_iadd hx hb d_M_text_48 ?_
              refine lv_topi (fun v_3 ev_3 => ?_)
              obtain rfl : v_3 = nI (tn + i) := ev_3.trans (nI_add _ _)
              refine lv_lload_n hx hb d_M_text_49 rfl (lv_at hl 2 rfl) ?_
              refine lv_bipush (v := nI 8) hx hb d_M_text_50 (by decide) ?_
              refine lv_iload_n hx hb d_M_text_52 rfl (lv_at hl 3 rfl) ?_
              refine lv_iconst (v := nI 1) hx hb d_M_text_53 (by decide) ?_
              refine lv_isub hx hb d_M_text_54 ?_
              refine lv_topi (fun v_4 ev_4 => ?_)
              obtain rfl : v_4 = nI (j - 1) := ev_4.trans (pk_sub (by omega))
              refine lv_iload hx hb d_M_text_55 (lv_at hl 0 rfl) ?_
              refine lv_isub hx hb d_M_text_57 ?_
              refine lv_topi (fun v_5 ev_5 => ?_)
              obtain rfl : v_5 = nI (j - 1 - i) := ev_5.trans (pk_sub (by omega))
              refine lv_imul hx hb d_M_text_58 ?_
              refine lv_topi (fun v_6 ev_6 => ?_)
              obtain rfl : v_6 = nI (8 * (j - 1 - i)) := ev_6.trans (pk_mul _ _)
              refine lv_lshr hx hb d_M_text_59 rfl ?_
              refine lv_topl (fun v_7 ev_7 => ?_)
              refine lv_ldc2 (v := 255) hx hb hown (htB _ hcn_M_33) d_M_text_60 ?_
              refine lv_land hx hb d_M_text_63 ?_
              refine lv_topl (fun v_8 ev_8 => ?_)
              refine lv_l2i hx hb d_M_text_64 rfl ?_
              refine lv_topi (fun v_9 ev_9 => ?_)
              obtain rfl : v_9 = bu x (8 * (j - 1 - i)) := by rw [ev_9, ev_8, ev_7]; exact bs_bu (by omega)
              refine va_iast hx hb hK hP hD hS 1 0 rfl rfl (vp_in_nI (n := tn + i) (by omega) (by decide)) d_M_text_65 (fun H locs hP hD hS => ?_)
              rw [nI_clamp (n := tn + i) (by omega)] at hP hD
              have hP : va_P (dC, dI) classes (wM h0 a1 a2 a3 a4 a5 cI cZ (nI 0) (upd (ap tx tn x j i) (tn + i) (bu x (8 * (j - 1 - i)))) pt qt ar nr tn pn) H := hP
              have hD : va_D A (wM h0 a1 a2 a3 a4 a5 cI cZ (nI 0) (upd (ap tx tn x j i) (tn + i) (bu x (8 * (j - 1 - i)))) pt qt ar nr tn pn) := hD
              refine lv_iinc (v := nI (i + 1)) (lv' := [(4, .int (nI (i + 1))), (0, .ref h0), (1, .long x), (3, .int (nI j))]) hx hb d_M_text_66 hl (k := 0) rfl (nI_add _ 1) (by decide) rfl (fun ls hl => ?_)
              refine lv_goto (tgt := 32) hx hb d_M_text_69 (by decide) ?_
              rw [ap_s] at hP hD
              exact ih (i + 1) _ _ (by omega) (by omega) (by omega) hP hD hS ls (lv_sub hl [0, 1, 2, 3] rfl)
        rw [← ap_0 (tx := tx) (tn := tn) (x := x) (j := j)] at hP hD
        exact loop 1001 0 _ _ (by omega) (by omega) (by omega) hP hD hS ls (lv_sub hl [0, 1, 2, 3] rfl)
      · have c_4 := mt (nI_leI (by omega) (by omega)).mpr c_4
        refine lv_iconst (v := -1) hx hb d_M_text_27 (by decide) ?_
        have hno : hrm tn 400 (nI j) = false := by first | exact hrm_a ‹_› | exact hrm_b ‹_› | exact hrm_x hj ‹_›
        exact W.iret (v := -1) hx hb hr (fun t ht hW => ⟨⟨_, (tx, tn), rfl, ⟨by unfold teR; rw [if_neg (by rw [hno]; decide)], by unfold teT teN; rw [if_neg (show ¬ hrm tn 400 (nI j) = true by rw [hno]; decide), if_neg (show ¬ hrm tn 400 (nI j) = true by rw [hno]; decide)]⟩, by rw [ht]; exact hP, va_K.moved hW.alike hK, hD⟩, hS.F ht⟩) hS.2.2 d_M_text_28

set_option maxHeartbeats 4000000 in
set_option maxRecDepth 100000 in
theorem c_M_pattern (l : Launch) (dC : Nat → ClassId) (dI : Nat → Nat → Nat) (h0 a1 a2 a3 a4 a5 : Nat) (cI cZ : ClassId) (cd : Int32) (tx pt qt ar nr : Nat → Int32) (tn pn : Nat) (sz : Nat) (hp : pn ≤ 200) (x : Int64) (n qq : Int32) : Met l y_M_pattern (.code y_M_pattern b_M_pattern 6 (some .int) :: wB) (Rm 0 0) (va_Pc [.ref h0, .long x, .int n, .int qq] (fun U => U.heap.size = sz ∧ va_P (dC, dI) classes (wM h0 a1 a2 a3 a4 a5 cI cZ cd tx pt qt ar nr tn pn) U.heap ∧ va_K (dC, dI) classes (tyIZ cI cZ) U ∧ va_D (fun _ => True) (wM h0 a1 a2 a3 a4 a5 cI cZ cd tx pt qt ar nr tn pn))) (va_Qi (fun (r : Int32) (u : (Nat → Int32) × (Nat → Int32) × Nat) => r = teR pn 200 n ∧ u = (teT pt pn 200 x n, teQ qt pn 200 qq n, teN pn 200 n)) (fun (u : (Nat → Int32) × (Nat → Int32) × Nat) (t : State) => va_P (dC, dI) classes (wM h0 a1 a2 a3 a4 a5 cI cZ ((nI 0)) tx u.1 u.2.1 ar nr tn u.2.2) t.heap ∧ va_K (dC, dI) classes (tyIZ cI cZ) t ∧ va_D (va_A (wM h0 a1 a2 a3 a4 a5 cI cZ cd tx pt qt ar nr tn pn) sz) (wM h0 a1 a2 a3 a4 a5 cI cZ ((nI 0)) tx u.1 u.2.1 ar nr tn u.2.2)) (va_A (wM h0 a1 a2 a3 a4 a5 cI cZ cd tx pt qt ar nr tn pn) sz)) 0 0 (va_A (wM h0 a1 a2 a3 a4 a5 cI cZ cd tx pt qt ar nr tn pn) sz) := by
  refine Met.ofW (cc := b_M_pattern) (maxL := 6) (ret := (some .int)) (by decide) rfl ?_
  intro p e s mm args below meth c s₁ B hml hv
  obtain ⟨rfl, hsz, hP, hK, hD0⟩ := hv
  have hx := B.exec
  have hb := B.bytes
  have hr := B.returns
  have hts := atoms_spec (ws := (.code y_M_pattern b_M_pattern 6 (some .int) :: wB)) B.pre
  have htB : ∀ w ∈ wB, w.before _ s = true := fun w h => hts w (List.mem_cons_of_mem _ h)
  have hown : s.vm.findClass R_M = some mm.cls := findClass_of_methodNamed B.named
  have hlocks := B.notSynchronized
  subst hsz
  have hD := hD0.self (sz := s.heap.size)
  generalize hAe : va_A (wM h0 a1 a2 a3 a4 a5 cI cZ cd tx pt qt ar nr tn pn) s.heap.size = A at hD ⊢
  have hA : ∀ q : Nat, s.heap.size ≤ q → A q := fun q h => by rw [← hAe]; exact Or.inr h
  have hS : va_S A s.heap s.heap [] := va_S.rf
  have hP : va_P (dC, dI) classes (wM h0 a1 a2 a3 a4 a5 cI cZ cd tx pt qt ar nr tn pn) s.heap := hP
  have hl := lv_entry ([.ref h0, .long x, .int n, .int qq]) (n := 6) (Nat.le_of_ble_eq_true rfl)
  rw [lg_entry_eq]
  generalize (lg_sl ([.ref h0, .long x, .int n, .int qq]) ++ List.replicate (6 - (lg_sl ([.ref h0, .long x, .int n, .int qq])).length) Slot.unset).toArray = ls at hl ⊢
  have hl : lv_has ls 6 [(0, .ref h0), (1, .long x), (3, .int n), (4, .int qq)] := hl
  refine lv_aload_n hx hb d_M_pattern_0 rfl (lv_at hl 0 rfl) ?_
  refine lv_iconst (v := nI 0) hx hb d_M_pattern_1 (by decide) ?_
  refine va_put (D := (dC, dI)) (ci := 1) (v := .int (nI 0)) (ty := .int) (C := R_M) (T := F_M) (N := 8) hx hb htB in_M t_M t_M_ok n_M hown hK hP hD hS 0 rfl rfl 0 (by decide) (htB _ hfl_M_26) (fun _ h9 => h9) rfl (by decide +kernel) rfl rfl (Nat.le_of_ble_eq_true rfl) d_M_pattern_2 (fun H locs hP hD hS => ?_)
  have hP : va_P (dC, dI) classes (wM h0 a1 a2 a3 a4 a5 cI cZ (nI 0) tx pt qt ar nr tn pn) H := hP
  have hD : va_D A (wM h0 a1 a2 a3 a4 a5 cI cZ (nI 0) tx pt qt ar nr tn pn) := hD
  refine lv_iload_n hx hb d_M_pattern_5 rfl (lv_at hl 2 rfl) ?_
  refine lv_if_lt (tgt := 27) hx hb d_M_pattern_6 (by decide) (fun c_1 => ?_) (fun c_1 => ?_)
  · refine lv_iconst (v := -1) hx hb d_M_pattern_27 (by decide) ?_
    have hno : hrm pn 200 n = false := by first | exact hrm_a ‹_› | exact hrm_b ‹_› | exact hrm_x hj ‹_›
    exact W.iret (v := -1) hx hb hr (fun t ht hW => ⟨⟨_, (pt, qt, pn), rfl, ⟨by unfold teR; rw [if_neg (by rw [hno]; decide)], by unfold teT teN teQ; rw [if_neg (show ¬ hrm pn 200 n = true by rw [hno]; decide), if_neg (show ¬ hrm pn 200 n = true by rw [hno]; decide), if_neg (show ¬ hrm pn 200 n = true by rw [hno]; decide)]⟩, by rw [ht]; exact hP, va_K.moved hW.alike hK, hD⟩, hS.F ht⟩) hS.2.2 d_M_pattern_28
  · refine lv_iload_n hx hb d_M_pattern_9 rfl (lv_at hl 2 rfl) ?_
    refine lv_bipush (v := nI 8) hx hb d_M_pattern_10 (by decide) ?_
    refine lv_icmp_gt (tgt := 27) hx hb d_M_pattern_12 (by decide) (fun c_2 => ?_) (fun c_2 => ?_)
    · refine lv_iconst (v := -1) hx hb d_M_pattern_27 (by decide) ?_
      have hno : hrm pn 200 n = false := by first | exact hrm_a ‹_› | exact hrm_b ‹_› | exact hrm_x hj ‹_›
      exact W.iret (v := -1) hx hb hr (fun t ht hW => ⟨⟨_, (pt, qt, pn), rfl, ⟨by unfold teR; rw [if_neg (by rw [hno]; decide)], by unfold teT teN teQ; rw [if_neg (show ¬ hrm pn 200 n = true by rw [hno]; decide), if_neg (show ¬ hrm pn 200 n = true by rw [hno]; decide), if_neg (show ¬ hrm pn 200 n = true by rw [hno]; decide)]⟩, by rw [ht]; exact hP, va_K.moved hW.alike hK, hD⟩, hS.F ht⟩) hS.2.2 d_M_pattern_28
    · obtain ⟨j, hj, rfl⟩ := hrm_j c_1 c_2
      refine lv_aload_n hx hb d_M_pattern_15 rfl (lv_at hl 0 rfl) ?_
      refine va_get (D := (dC, dI)) (ci := 1) (v := .int (nI pn)) (C := R_M) (T := F_M) (N := 8) hx hb htB in_M hown hK hP 0 rfl rfl 5 (by decide) (htB _ hfl_M_35) (fun _ h9 => h9) rfl d_M_pattern_16 ?_
      refine lv_iload_n hx hb d_M_pattern_19 rfl (lv_at hl 2 rfl) ?_
      refine lv_iadd hx hb d_M_pattern_20 ?_
      refine lv_topi (fun v_3 ev_3 => ?_)
      obtain rfl : v_3 = nI (pn + j) := ev_3.trans (nI_add _ _)
      refine lv_sipush (v := nI 200) hx hb d_M_pattern_21 (by decide) ?_
      refine lv_icmp_le (tgt := 29) hx hb d_M_pattern_24 (by decide) (fun c_4 => ?_) (fun c_4 => ?_)
      · have c_4 := (nI_leI (by omega) (by omega)).mp c_4
        refine lv_iconst (v := nI 0) hx hb d_M_pattern_29 (by decide) ?_
        refine lv_istore (lv' := [(5, .int (nI 0)), (0, .ref h0), (1, .long x), (3, .int (nI j)), (4, .int qq)]) hx hb d_M_pattern_30 hl (by decide) rfl (fun ls hl => ?_)
        have hcj : (nI j).toNatClampNeg = j := nI_clamp (by omega)
        have hy := hrm_y (ln := pn) (lim := 200) hj (by omega)
        have loop : ∀ (n i : Nat) (H : Heap) (locs : List Loc), i ≤ 1000 → 1000 < i + n → i ≤ j → va_P (dC, dI) classes (wM h0 a1 a2 a3 a4 a5 cI cZ (nI 0) tx (ap pt pn x j i) (aq qt pn qq i) ar nr tn pn) H → va_D A (wM h0 a1 a2 a3 a4 a5 cI cZ (nI 0) tx (ap pt pn x j i) (aq qt pn qq i) ar nr tn pn) → va_S A s.heap H locs → ∀ ls : Array Slot, lv_has ls 6 [(5, .int (nI i)), (0, .ref h0), (1, .long x), (3, .int (nI j)), (4, .int qq)] → W p l e (Rm 0 0) s mm [.ref h0, .long x, .int (nI j), .int qq].toArray below meth c H locs 0 0 (MQ below (va_Qi (fun (r : Int32) (u : (Nat → Int32) × (Nat → Int32) × Nat) => r = teR pn 200 (nI j) ∧ u = (teT pt pn 200 x (nI j), teQ qt pn 200 qq (nI j), teN pn 200 (nI j))) (fun (u : (Nat → Int32) × (Nat → Int32) × Nat) (t : State) => va_P (dC, dI) classes (wM h0 a1 a2 a3 a4 a5 cI cZ ((nI 0)) tx u.1 u.2.1 ar nr tn u.2.2) t.heap ∧ va_K (dC, dI) classes (tyIZ cI cZ) t ∧ va_D A (wM h0 a1 a2 a3 a4 a5 cI cZ ((nI 0)) tx u.1 u.2.1 ar nr tn u.2.2)) A) [.ref h0, .long x, .int (nI j), .int qq].toArray s 0 0 A) (F0 mm 32 ls []) := by
          intro n
          induction n with
          | zero => intro i H locs h1 h2; exact absurd h2 (by omega)
          | succ n ih =>
            intro i H locs hi hn hij hP hD hS ls hl
            refine lv_iload hx hb d_M_pattern_32 (lv_at hl 0 rfl) ?_
            refine lv_iload_n hx hb d_M_pattern_34 rfl (lv_at hl 3 rfl) ?_
            refine lv_icmp_ge (tgt := 100) hx hb d_M_pattern_35 (by decide) (fun c_1 => ?_) (fun c_1 => ?_)
            · have c_1 := (nI_leI (by omega) (by omega)).mp c_1
              refine lv_aload_n hx hb d_M_pattern_100 rfl (lv_at hl 1 rfl) ?_
              refine lv_dup hx hb d_M_pattern_101 rfl ?_
              refine va_get (D := (dC, dI)) (ci := 1) (v := .int (nI pn)) (C := R_M) (T := F_M) (N := 8) hx hb htB in_M hown hK hP 0 rfl rfl 5 (by decide) (htB _ hfl_M_35) (fun _ h9 => h9) rfl d_M_pattern_102 ?_
              refine lv_iload_n hx hb d_M_pattern_105 rfl (lv_at hl 3 rfl) ?_
              refine lv_iadd hx hb d_M_pattern_106 ?_
              refine lv_topi (fun v_2 ev_2 => ?_)
              obtain rfl : v_2 = nI (pn + j) := ev_2.trans (nI_add _ _)
              refine va_put (D := (dC, dI)) (ci := 1) (v := .int (nI (pn + j))) (ty := .int) (C := R_M) (T := F_M) (N := 8) hx hb htB in_M t_M t_M_ok n_M hown hK hP hD hS 0 rfl rfl 5 (by decide) (htB _ hfl_M_35) (fun _ h9 => h9) rfl (by decide +kernel) rfl rfl (Nat.le_of_ble_eq_true rfl) d_M_pattern_107 (fun H locs hP hD hS => ?_)
              have hP : va_P (dC, dI) classes (wM h0 a1 a2 a3 a4 a5 cI cZ (nI 0) tx (ap pt pn x j i) (aq qt pn qq i) ar nr tn (pn + j)) H := hP
              have hD : va_D A (wM h0 a1 a2 a3 a4 a5 cI cZ (nI 0) tx (ap pt pn x j i) (aq qt pn qq i) ar nr tn (pn + j)) := hD
              refine lv_aload_n hx hb d_M_pattern_110 rfl (lv_at hl 1 rfl) ?_
              refine va_get (D := (dC, dI)) (ci := 1) (v := .int (nI (pn + j))) (C := R_M) (T := F_M) (N := 8) hx hb htB in_M hown hK hP 0 rfl rfl 5 (by decide) (htB _ hfl_M_35) (fun _ h9 => h9) rfl d_M_pattern_111 ?_
              exact W.iret (v := nI (pn + j)) hx hb hr (fun t ht hW => ⟨⟨_, (ap pt pn x j i, aq qt pn qq i, pn + j), rfl, ⟨by unfold teR; rw [if_pos hy, hcj], by unfold teT teN teQ; rw [if_pos hy, if_pos hy, if_pos hy, hcj, show i = j by omega]⟩, by rw [ht]; exact hP, va_K.moved hW.alike hK, hD⟩, hS.F ht⟩) hS.2.2 d_M_pattern_114
            · have c_1 := mt (nI_leI (by omega) (by omega)).mpr c_1
              refine lv_aload_n hx hb d_M_pattern_38 rfl (lv_at hl 1 rfl) ?_
              refine va_get (D := (dC, dI)) (ci := 1) (v := .ref a2) (C := R_M) (T := F_M) (N := 8) hx hb htB in_M hown hK hP 0 rfl rfl 2 (by decide) (htB _ hfl_M_13) (fun _ h9 => h9) rfl d_M_pattern_39 ?_
              refine lv_aload_n hx hb d_M_pattern_42 rfl (lv_at hl 1 rfl) ?_
              refine va_get (D := (dC, dI)) (ci := 1) (v := .int (nI pn)) (C := R_M) (T := F_M) (N := 8) hx hb htB in_M hown hK hP 0 rfl rfl 5 (by decide) (htB _ hfl_M_35) (fun _ h9 => h9) rfl d_M_pattern_43 ?_
              refine lv_iload hx hb d_M_pattern_46 (lv_at hl 0 rfl) ?_
              refine lv_iadd hx hb d_M_pattern_48 ?_
              refine lv_topi (fun v_3 ev_3 => ?_)
              obtain rfl : v_3 = nI (pn + i) := ev_3.trans (nI_add _ _)
              refine lv_lload_n hx hb d_M_pattern_49 rfl (lv_at hl 2 rfl) ?_
              refine lv_bipush (v := nI 8) hx hb d_M_pattern_50 (by decide) ?_
              refine lv_iload_n hx hb d_M_pattern_52 rfl (lv_at hl 3 rfl) ?_
              refine lv_iconst (v := nI 1) hx hb d_M_pattern_53 (by decide) ?_
              refine lv_isub hx hb d_M_pattern_54 ?_
              refine lv_topi (fun v_4 ev_4 => ?_)
              obtain rfl : v_4 = nI (j - 1) := ev_4.trans (pk_sub (by omega))
              refine lv_iload hx hb d_M_pattern_55 (lv_at hl 0 rfl) ?_
              refine lv_isub hx hb d_M_pattern_57 ?_
              refine lv_topi (fun v_5 ev_5 => ?_)
              obtain rfl : v_5 = nI (j - 1 - i) := ev_5.trans (pk_sub (by omega))
              refine lv_imul hx hb d_M_pattern_58 ?_
              refine lv_topi (fun v_6 ev_6 => ?_)
              obtain rfl : v_6 = nI (8 * (j - 1 - i)) := ev_6.trans (pk_mul _ _)
              refine lv_lshr hx hb d_M_pattern_59 rfl ?_
              refine lv_topl (fun v_7 ev_7 => ?_)
              refine lv_ldc2 (v := 255) hx hb hown (htB _ hcn_M_33) d_M_pattern_60 ?_
              refine lv_land hx hb d_M_pattern_63 ?_
              refine lv_topl (fun v_8 ev_8 => ?_)
              refine lv_l2i hx hb d_M_pattern_64 rfl ?_
              refine lv_topi (fun v_9 ev_9 => ?_)
              obtain rfl : v_9 = bu x (8 * (j - 1 - i)) := by rw [ev_9, ev_8, ev_7]; exact bs_bu (by omega)
              refine va_iast hx hb hK hP hD hS 2 0 rfl rfl (vp_in_nI (n := pn + i) (by omega) (by decide)) d_M_pattern_65 (fun H locs hP hD hS => ?_)
              rw [nI_clamp (n := pn + i) (by omega)] at hP hD
              have hP : va_P (dC, dI) classes (wM h0 a1 a2 a3 a4 a5 cI cZ (nI 0) tx (upd (ap pt pn x j i) (pn + i) (bu x (8 * (j - 1 - i)))) (aq qt pn qq i) ar nr tn pn) H := hP
              have hD : va_D A (wM h0 a1 a2 a3 a4 a5 cI cZ (nI 0) tx (upd (ap pt pn x j i) (pn + i) (bu x (8 * (j - 1 - i)))) (aq qt pn qq i) ar nr tn pn) := hD
              refine lv_aload_n hx hb d_M_pattern_66 rfl (lv_at hl 1 rfl) ?_
              refine va_get (D := (dC, dI)) (ci := 1) (v := .ref a3) (C := R_M) (T := F_M) (N := 8) hx hb htB in_M hown hK hP 0 rfl rfl 3 (by decide) (htB _ hfl_M_16) (fun _ h9 => h9) rfl d_M_pattern_67 ?_
              refine lv_aload_n hx hb d_M_pattern_70 rfl (lv_at hl 1 rfl) ?_
              refine va_get (D := (dC, dI)) (ci := 1) (v := .int (nI pn)) (C := R_M) (T := F_M) (N := 8) hx hb htB in_M hown hK hP 0 rfl rfl 5 (by decide) (htB _ hfl_M_35) (fun _ h9 => h9) rfl d_M_pattern_71 ?_
              refine lv_iload hx hb d_M_pattern_74 (lv_at hl 0 rfl) ?_
              refine lv_iadd hx hb d_M_pattern_76 ?_
              refine lv_topi (fun v_10 ev_10 => ?_)
              obtain rfl : v_10 = nI (pn + i) := ev_10.trans (nI_add _ _)
              refine lv_iload hx hb d_M_pattern_77 (lv_at hl 4 rfl) ?_
              refine lv_iload hx hb d_M_pattern_79 (lv_at hl 0 rfl) ?_
              refine lv_ishr hx hb d_M_pattern_81 ?_
              refine lv_topi (fun v_11 ev_11 => ?_)
              refine lv_iconst (v := nI 1) hx hb d_M_pattern_82 (by decide) ?_
              refine lv_iand hx hb d_M_pattern_83 ?_
              refine lv_topi (fun v_12 ev_12 => ?_)
              refine lv_iconst (v := nI 1) hx hb d_M_pattern_84 (by decide) ?_
              refine lv_icmp_ne (tgt := 92) hx hb d_M_pattern_85 (by decide) (fun c_13 => ?_) (fun c_13 => ?_)
              · refine lv_iconst (v := nI 0) hx hb d_M_pattern_92 (by decide) ?_
                refine va_zast hx hb hK hP hD hS 3 1 rfl rfl (vp_in_nI (n := pn + i) (by omega) (by decide)) d_M_pattern_93 (fun H locs hP hD hS => ?_)
                rw [nI_clamp (n := pn + i) (by omega), show vp_nar .boolean (nI 0) = nI 0 from rfl] at hP hD
                have hP : va_P (dC, dI) classes (wM h0 a1 a2 a3 a4 a5 cI cZ (nI 0) tx (upd (ap pt pn x j i) (pn + i) (bu x (8 * (j - 1 - i)))) (upd (aq qt pn qq i) (pn + i) (nI 0)) ar nr tn pn) H := hP
                have hD : va_D A (wM h0 a1 a2 a3 a4 a5 cI cZ (nI 0) tx (upd (ap pt pn x j i) (pn + i) (bu x (8 * (j - 1 - i)))) (upd (aq qt pn qq i) (pn + i) (nI 0)) ar nr tn pn) := hD
                refine lv_iinc (v := nI (i + 1)) (lv' := [(5, .int (nI (i + 1))), (0, .ref h0), (1, .long x), (3, .int (nI j)), (4, .int qq)]) hx hb d_M_pattern_94 hl (k := 0) rfl (nI_add _ 1) (by decide) rfl (fun ls hl => ?_)
                refine lv_goto (tgt := 32) hx hb d_M_pattern_97 (by decide) ?_
                have hb9 : nI 0 = bI (qb qq i) := by
                  unfold qb
                  rw [← qs_qb (by omega)]
                  subst_vars
                  first | (rw [decide_eq_false ‹_›]; rfl) | (rw [decide_eq_true (Eq.symm ‹_›)]; rfl)
                rw [ap_s, show upd (aq qt pn qq i) (pn + i) (nI 0) = aq qt pn qq (i + 1) by rw [hb9]; exact aq_s] at hP hD
                exact ih (i + 1) _ _ (by omega) (by omega) (by omega) hP hD hS ls (lv_sub hl [0, 1, 2, 3, 4] rfl)
              · refine lv_iconst (v := nI 1) hx hb d_M_pattern_88 (by decide) ?_
                refine lv_goto (tgt := 93) hx hb d_M_pattern_89 (by decide) ?_
                refine va_zast hx hb hK hP hD hS 3 1 rfl rfl (vp_in_nI (n := pn + i) (by omega) (by decide)) d_M_pattern_93 (fun H locs hP hD hS => ?_)
                rw [nI_clamp (n := pn + i) (by omega), show vp_nar .boolean (nI 1) = nI 1 from rfl] at hP hD
                have hP : va_P (dC, dI) classes (wM h0 a1 a2 a3 a4 a5 cI cZ (nI 0) tx (upd (ap pt pn x j i) (pn + i) (bu x (8 * (j - 1 - i)))) (upd (aq qt pn qq i) (pn + i) (nI 1)) ar nr tn pn) H := hP
                have hD : va_D A (wM h0 a1 a2 a3 a4 a5 cI cZ (nI 0) tx (upd (ap pt pn x j i) (pn + i) (bu x (8 * (j - 1 - i)))) (upd (aq qt pn qq i) (pn + i) (nI 1)) ar nr tn pn) := hD
                refine lv_iinc (v := nI (i + 1)) (lv' := [(5, .int (nI (i + 1))), (0, .ref h0), (1, .long x), (3, .int (nI j)), (4, .int qq)]) hx hb d_M_pattern_94 hl (k := 0) rfl (nI_add _ 1) (by decide) rfl (fun ls hl => ?_)
                refine lv_goto (tgt := 32) hx hb d_M_pattern_97 (by decide) ?_
                have hb9 : nI 1 = bI (qb qq i) := by
                  unfold qb
                  rw [← qs_qb (by omega)]
                  subst_vars
                  first | (rw [decide_eq_true ‹_›]; rfl) | (rw [decide_eq_true (Eq.symm ‹_›)]; rfl)
                rw [ap_s, show upd (aq qt pn qq i) (pn + i) (nI 1) = aq qt pn qq (i + 1) by rw [hb9]; exact aq_s] at hP hD
                exact ih (i + 1) _ _ (by omega) (by omega) (by omega) hP hD hS ls (lv_sub hl [0, 1, 2, 3, 4] rfl)
        rw [← ap_0 (tx := pt) (tn := pn) (x := x) (j := j), ← aq_0 (qt := qt) (pn := pn) (q := qq)] at hP hD
        exact loop 1001 0 _ _ (by omega) (by omega) (by omega) hP hD hS ls (lv_sub hl [0, 1, 2, 3, 4] rfl)
      · have c_4 := mt (nI_leI (by omega) (by omega)).mpr c_4
        refine lv_iconst (v := -1) hx hb d_M_pattern_27 (by decide) ?_
        have hno : hrm pn 200 (nI j) = false := by first | exact hrm_a ‹_› | exact hrm_b ‹_› | exact hrm_x hj ‹_›
        exact W.iret (v := -1) hx hb hr (fun t ht hW => ⟨⟨_, (pt, qt, pn), rfl, ⟨by unfold teR; rw [if_neg (by rw [hno]; decide)], by unfold teT teN teQ; rw [if_neg (show ¬ hrm pn 200 (nI j) = true by rw [hno]; decide), if_neg (show ¬ hrm pn 200 (nI j) = true by rw [hno]; decide), if_neg (show ¬ hrm pn 200 (nI j) = true by rw [hno]; decide)]⟩, by rw [ht]; exact hP, va_K.moved hW.alike hK, hD⟩, hS.F ht⟩) hS.2.2 d_M_pattern_28

set_option maxHeartbeats 4000000 in
set_option maxRecDepth 100000 in
theorem c_M_clear (l : Launch) (dC : Nat → ClassId) (dI : Nat → Nat → Nat) (h0 a1 a2 a3 a4 a5 : Nat) (cI cZ : ClassId) (cd : Int32) (tx pt qt ar nr : Nat → Int32) (tn pn : Nat) (sz : Nat)  : Met l y_M_clear (.code y_M_clear b_M_clear 2 (some .int) :: wB) (Rm 0 0) (va_Pc [.ref h0] (fun U => U.heap.size = sz ∧ va_P (dC, dI) classes (wM h0 a1 a2 a3 a4 a5 cI cZ cd tx pt qt ar nr tn pn) U.heap ∧ va_K (dC, dI) classes (tyIZ cI cZ) U ∧ va_D (fun _ => True) (wM h0 a1 a2 a3 a4 a5 cI cZ cd tx pt qt ar nr tn pn))) (va_Qi (fun (r : Int32) (u : Unit) => r = nI tn) (fun (u : Unit) (t : State) => va_P (dC, dI) classes (wM h0 a1 a2 a3 a4 a5 cI cZ ((nI 0)) tx pt qt ar nr 0 0) t.heap ∧ va_K (dC, dI) classes (tyIZ cI cZ) t ∧ va_D (va_A (wM h0 a1 a2 a3 a4 a5 cI cZ cd tx pt qt ar nr tn pn) sz) (wM h0 a1 a2 a3 a4 a5 cI cZ ((nI 0)) tx pt qt ar nr 0 0)) (va_A (wM h0 a1 a2 a3 a4 a5 cI cZ cd tx pt qt ar nr tn pn) sz)) 0 0 (va_A (wM h0 a1 a2 a3 a4 a5 cI cZ cd tx pt qt ar nr tn pn) sz) := by
  refine Met.ofW (cc := b_M_clear) (maxL := 2) (ret := (some .int)) (by decide) rfl ?_
  intro p e s mm args below meth c s₁ B hml hv
  obtain ⟨rfl, hsz, hP, hK, hD0⟩ := hv
  have hx := B.exec
  have hb := B.bytes
  have hr := B.returns
  have hts := atoms_spec (ws := (.code y_M_clear b_M_clear 2 (some .int) :: wB)) B.pre
  have htB : ∀ w ∈ wB, w.before _ s = true := fun w h => hts w (List.mem_cons_of_mem _ h)
  have hown : s.vm.findClass R_M = some mm.cls := findClass_of_methodNamed B.named
  have hlocks := B.notSynchronized
  subst hsz
  have hD := hD0.self (sz := s.heap.size)
  generalize hAe : va_A (wM h0 a1 a2 a3 a4 a5 cI cZ cd tx pt qt ar nr tn pn) s.heap.size = A at hD ⊢
  have hA : ∀ q : Nat, s.heap.size ≤ q → A q := fun q h => by rw [← hAe]; exact Or.inr h
  have hS : va_S A s.heap s.heap [] := va_S.rf
  have hP : va_P (dC, dI) classes (wM h0 a1 a2 a3 a4 a5 cI cZ cd tx pt qt ar nr tn pn) s.heap := hP
  have hl := lv_entry ([.ref h0]) (n := 2) (Nat.le_of_ble_eq_true rfl)
  rw [lg_entry_eq]
  generalize (lg_sl ([.ref h0]) ++ List.replicate (2 - (lg_sl ([.ref h0])).length) Slot.unset).toArray = ls at hl ⊢
  have hl : lv_has ls 2 [(0, .ref h0)] := hl
  refine lv_aload_n hx hb d_M_clear_0 rfl (lv_at hl 0 rfl) ?_
  refine lv_iconst (v := nI 0) hx hb d_M_clear_1 (by decide) ?_
  refine va_put (D := (dC, dI)) (ci := 1) (v := .int (nI 0)) (ty := .int) (C := R_M) (T := F_M) (N := 8) hx hb htB in_M t_M t_M_ok n_M hown hK hP hD hS 0 rfl rfl 0 (by decide) (htB _ hfl_M_26) (fun _ h9 => h9) rfl (by decide +kernel) rfl rfl (Nat.le_of_ble_eq_true rfl) d_M_clear_2 (fun H locs hP hD hS => ?_)
  have hP : va_P (dC, dI) classes (wM h0 a1 a2 a3 a4 a5 cI cZ (nI 0) tx pt qt ar nr tn pn) H := hP
  have hD : va_D A (wM h0 a1 a2 a3 a4 a5 cI cZ (nI 0) tx pt qt ar nr tn pn) := hD
  refine lv_aload_n hx hb d_M_clear_5 rfl (lv_at hl 0 rfl) ?_
  refine va_get (D := (dC, dI)) (ci := 1) (v := .int (nI tn)) (C := R_M) (T := F_M) (N := 8) hx hb htB in_M hown hK hP 0 rfl rfl 4 (by decide) (htB _ hfl_M_30) (fun _ h9 => h9) rfl d_M_clear_6 ?_
  refine lv_istore_n (lv' := [(1, .int (nI tn)), (0, .ref h0)]) hx hb d_M_clear_9 rfl hl (by decide) rfl (fun ls hl => ?_)
  refine lv_aload_n hx hb d_M_clear_10 rfl (lv_at hl 1 rfl) ?_
  refine lv_iconst (v := nI 0) hx hb d_M_clear_11 (by decide) ?_
  refine va_put (D := (dC, dI)) (ci := 1) (v := .int (nI 0)) (ty := .int) (C := R_M) (T := F_M) (N := 8) hx hb htB in_M t_M t_M_ok n_M hown hK hP hD hS 0 rfl rfl 4 (by decide) (htB _ hfl_M_30) (fun _ h9 => h9) rfl (by decide +kernel) rfl rfl (Nat.le_of_ble_eq_true rfl) d_M_clear_12 (fun H locs hP hD hS => ?_)
  have hP : va_P (dC, dI) classes (wM h0 a1 a2 a3 a4 a5 cI cZ (nI 0) tx pt qt ar nr 0 pn) H := hP
  have hD : va_D A (wM h0 a1 a2 a3 a4 a5 cI cZ (nI 0) tx pt qt ar nr 0 pn) := hD
  refine lv_aload_n hx hb d_M_clear_15 rfl (lv_at hl 1 rfl) ?_
  refine lv_iconst (v := nI 0) hx hb d_M_clear_16 (by decide) ?_
  refine va_put (D := (dC, dI)) (ci := 1) (v := .int (nI 0)) (ty := .int) (C := R_M) (T := F_M) (N := 8) hx hb htB in_M t_M t_M_ok n_M hown hK hP hD hS 0 rfl rfl 5 (by decide) (htB _ hfl_M_35) (fun _ h9 => h9) rfl (by decide +kernel) rfl rfl (Nat.le_of_ble_eq_true rfl) d_M_clear_17 (fun H locs hP hD hS => ?_)
  have hP : va_P (dC, dI) classes (wM h0 a1 a2 a3 a4 a5 cI cZ (nI 0) tx pt qt ar nr 0 0) H := hP
  have hD : va_D A (wM h0 a1 a2 a3 a4 a5 cI cZ (nI 0) tx pt qt ar nr 0 0) := hD
  refine lv_iload_n hx hb d_M_clear_20 rfl (lv_at hl 0 rfl) ?_
  exact W.iret (v := nI tn) hx hb hr (fun t ht hW => ⟨⟨_, (), rfl, rfl, by rw [ht]; exact hP, va_K.moved hW.alike hK, hD⟩, hS.F ht⟩) hS.2.2 d_M_clear_21

set_option maxHeartbeats 4000000 in
set_option maxRecDepth 100000 in
theorem c_M_matches (l : Launch) (dC : Nat → ClassId) (dI : Nat → Nat → Nat) (h0 a1 a2 a3 a4 a5 : Nat) (cI cZ : ClassId) (cd : Int32) (tx pt qt ar nr : Nat → Int32) (tn pn : Nat) (sz : Nat) (hp : pn ≤ 200) (ht : tn ≤ 400) : Met l y_M_matches (.code y_M_matches b_M_matches 1 (some .boolean) :: wB) (Rm 4 101) (va_Pc [.ref h0] (fun U => U.heap.size = sz ∧ va_P (dC, dI) classes (wM h0 a1 a2 a3 a4 a5 cI cZ cd tx pt qt ar nr tn pn) U.heap ∧ va_K (dC, dI) classes (tyIZ cI cZ) U ∧ va_D (fun _ => True) (wM h0 a1 a2 a3 a4 a5 cI cZ cd tx pt qt ar nr tn pn))) (va_Qi (fun (r : Int32) (u : (Nat → Int32) × (Nat → Int32)) => r = bI (mM tx pt qt pn 0 tn tn)) (fun (u : (Nat → Int32) × (Nat → Int32)) (t : State) => va_P (dC, dI) classes (wM h0 a1 a2 a3 a4 a5 cI cZ ((nI 0)) tx pt qt u.1 u.2 tn pn) t.heap ∧ va_K (dC, dI) classes (tyIZ cI cZ) t ∧ va_D (va_A (wM h0 a1 a2 a3 a4 a5 cI cZ cd tx pt qt ar nr tn pn) sz) (wM h0 a1 a2 a3 a4 a5 cI cZ ((nI 0)) tx pt qt u.1 u.2 tn pn)) (va_A (wM h0 a1 a2 a3 a4 a5 cI cZ cd tx pt qt ar nr tn pn) sz)) 0 0 (va_A (wM h0 a1 a2 a3 a4 a5 cI cZ cd tx pt qt ar nr tn pn) sz) := by
  refine Met.ofW (cc := b_M_matches) (maxL := 1) (ret := (some .boolean)) (by decide) rfl ?_
  intro p e s mm args below meth c s₁ B hml hv
  obtain ⟨rfl, hsz, hP, hK, hD0⟩ := hv
  have hx := B.exec
  have hb := B.bytes
  have hr := B.returns
  have hts := atoms_spec (ws := (.code y_M_matches b_M_matches 1 (some .boolean) :: wB)) B.pre
  have htB : ∀ w ∈ wB, w.before _ s = true := fun w h => hts w (List.mem_cons_of_mem _ h)
  have hown : s.vm.findClass R_M = some mm.cls := findClass_of_methodNamed B.named
  have hlocks := B.notSynchronized
  subst hsz
  have hD := hD0.self (sz := s.heap.size)
  generalize hAe : va_A (wM h0 a1 a2 a3 a4 a5 cI cZ cd tx pt qt ar nr tn pn) s.heap.size = A at hD ⊢
  have hA : ∀ q : Nat, s.heap.size ≤ q → A q := fun q h => by rw [← hAe]; exact Or.inr h
  have hS : va_S A s.heap s.heap [] := va_S.rf
  have hP : va_P (dC, dI) classes (wM h0 a1 a2 a3 a4 a5 cI cZ cd tx pt qt ar nr tn pn) s.heap := hP
  have hl := lv_entry ([.ref h0]) (n := 1) (Nat.le_of_ble_eq_true rfl)
  rw [lg_entry_eq]
  generalize (lg_sl ([.ref h0]) ++ List.replicate (1 - (lg_sl ([.ref h0])).length) Slot.unset).toArray = ls at hl ⊢
  have hl : lv_has ls 1 [(0, .ref h0)] := hl
  refine lv_aload_n hx hb d_M_matches_0 rfl (lv_at hl 0 rfl) ?_
  refine lv_iconst (v := nI 0) hx hb d_M_matches_1 (by decide) ?_
  refine va_put (D := (dC, dI)) (ci := 1) (v := .int (nI 0)) (ty := .int) (C := R_M) (T := F_M) (N := 8) hx hb htB in_M t_M t_M_ok n_M hown hK hP hD hS 0 rfl rfl 0 (by decide) (htB _ hfl_M_26) (fun _ h9 => h9) rfl (by decide +kernel) rfl rfl (Nat.le_of_ble_eq_true rfl) d_M_matches_2 (fun H locs hP hD hS => ?_)
  have hP : va_P (dC, dI) classes (wM h0 a1 a2 a3 a4 a5 cI cZ (nI 0) tx pt qt ar nr tn pn) H := hP
  have hD : va_D A (wM h0 a1 a2 a3 a4 a5 cI cZ (nI 0) tx pt qt ar nr tn pn) := hD
  refine lv_aload_n hx hb d_M_matches_5 rfl (lv_at hl 0 rfl) ?_
  refine lv_iconst (v := nI 0) hx hb d_M_matches_6 (by decide) ?_
  refine lv_aload_n hx hb d_M_matches_7 rfl (lv_at hl 0 rfl) ?_
  refine va_get (D := (dC, dI)) (ci := 1) (v := .int (nI tn)) (C := R_M) (T := F_M) (N := 8) hx hb htB in_M hown hK hP 0 rfl rfl 4 (by decide) (htB _ hfl_M_30) (fun _ h9 => h9) rfl d_M_matches_8 ?_
  refine r_M_go hp (Nat.zero_le _) ht hx hb hml hown htB hK hP hD hS hA hl.1 (Nat.le_of_ble_eq_true rfl) ⟨Nat.le_of_ble_eq_true rfl, Nat.le_of_ble_eq_true rfl⟩ ⟨Nat.zero_le _, Nat.zero_le _⟩ d_M_matches_11 (fun u1 H locs hu1 hP hD hS => ?_)
  refine lv_aload_n hx hb d_M_matches_14 rfl (lv_at hl 0 rfl) ?_
  refine va_get (D := (dC, dI)) (ci := 1) (v := .ref a4) (C := R_M) (T := F_M) (N := 8) hx hb htB in_M hown hK hP 0 rfl rfl 6 (by decide) (htB _ hfl_M_20) (fun _ h9 => h9) rfl d_M_matches_15 ?_
  refine lv_aload_n hx hb d_M_matches_18 rfl (lv_at hl 0 rfl) ?_
  refine va_get (D := (dC, dI)) (ci := 1) (v := .int (nI tn)) (C := R_M) (T := F_M) (N := 8) hx hb htB in_M hown hK hP 0 rfl rfl 4 (by decide) (htB _ hfl_M_30) (fun _ h9 => h9) rfl d_M_matches_19 ?_
  refine va_zald hx hb hK hP 4 1 rfl rfl (vp_in_nI (n := tn) (by omega) (by decide)) d_M_matches_22 ?_
  refine lv_topi (fun v_1 ev_1 => ?_)
  obtain rfl : v_1 = bI (mM tx pt qt pn 0 tn tn) := (show v_1 = u1.1 tn from ev_1.trans (by rw [nI_clamp (n := tn) (by omega)])).trans (hu1 tn ht)
  exact W.zret (v := bI (mM tx pt qt pn 0 tn tn)) hx hb hr (bI_nar _) (fun t ht hW => ⟨⟨_, u1, rfl, rfl, by rw [ht]; exact hP, va_K.moved hW.alike hK, hD⟩, hS.F ht⟩) hS.2.2 d_M_matches_23

set_option maxHeartbeats 4000000 in
set_option maxRecDepth 100000 in
theorem c_M_part (l : Launch) (dC : Nat → ClassId) (dI : Nat → Nat → Nat) (h0 a1 a2 a3 a4 a5 : Nat) (cI cZ : ClassId) (cd : Int32) (tx pt qt ar nr : Nat → Int32) (tn pn : Nat) (sz : Nat) (hp : pn ≤ 200) (ht : tn ≤ 400) (p0 p1 : Int32) : Met l y_M_part (.code y_M_part b_M_part 3 (some .boolean) :: wB) (Rm 4 101) (va_Pc [.ref h0, .int p0, .int p1] (fun U => U.heap.size = sz ∧ va_P (dC, dI) classes (wM h0 a1 a2 a3 a4 a5 cI cZ cd tx pt qt ar nr tn pn) U.heap ∧ va_K (dC, dI) classes (tyIZ cI cZ) U ∧ va_D (fun _ => True) (wM h0 a1 a2 a3 a4 a5 cI cZ cd tx pt qt ar nr tn pn))) (va_Qi (fun (r : Int32) (u : Int32 × (Nat → Int32) × (Nat → Int32)) => u.1 = (if okp tn p0 p1 = true then nI 0 else nI 1) ∧ r = (if okp tn p0 p1 = true then bI (mM tx pt qt pn p0.toNatClampNeg p1.toNatClampNeg p1.toNatClampNeg) else nI 0)) (fun (u : Int32 × (Nat → Int32) × (Nat → Int32)) (t : State) => va_P (dC, dI) classes (wM h0 a1 a2 a3 a4 a5 cI cZ u.1 tx pt qt u.2.1 u.2.2 tn pn) t.heap ∧ va_K (dC, dI) classes (tyIZ cI cZ) t ∧ va_D (va_A (wM h0 a1 a2 a3 a4 a5 cI cZ cd tx pt qt ar nr tn pn) sz) (wM h0 a1 a2 a3 a4 a5 cI cZ u.1 tx pt qt u.2.1 u.2.2 tn pn)) (va_A (wM h0 a1 a2 a3 a4 a5 cI cZ cd tx pt qt ar nr tn pn) sz)) 0 0 (va_A (wM h0 a1 a2 a3 a4 a5 cI cZ cd tx pt qt ar nr tn pn) sz) := by
  refine Met.ofW (cc := b_M_part) (maxL := 3) (ret := (some .boolean)) (by decide) rfl ?_
  intro p e s mm args below meth c s₁ B hml hv
  obtain ⟨rfl, hsz, hP, hK, hD0⟩ := hv
  have hx := B.exec
  have hb := B.bytes
  have hr := B.returns
  have hts := atoms_spec (ws := (.code y_M_part b_M_part 3 (some .boolean) :: wB)) B.pre
  have htB : ∀ w ∈ wB, w.before _ s = true := fun w h => hts w (List.mem_cons_of_mem _ h)
  have hown : s.vm.findClass R_M = some mm.cls := findClass_of_methodNamed B.named
  have hlocks := B.notSynchronized
  subst hsz
  have hD := hD0.self (sz := s.heap.size)
  generalize hAe : va_A (wM h0 a1 a2 a3 a4 a5 cI cZ cd tx pt qt ar nr tn pn) s.heap.size = A at hD ⊢
  have hA : ∀ q : Nat, s.heap.size ≤ q → A q := fun q h => by rw [← hAe]; exact Or.inr h
  have hS : va_S A s.heap s.heap [] := va_S.rf
  have hP : va_P (dC, dI) classes (wM h0 a1 a2 a3 a4 a5 cI cZ cd tx pt qt ar nr tn pn) s.heap := hP
  have hl := lv_entry ([.ref h0, .int p0, .int p1]) (n := 3) (Nat.le_of_ble_eq_true rfl)
  rw [lg_entry_eq]
  generalize (lg_sl ([.ref h0, .int p0, .int p1]) ++ List.replicate (3 - (lg_sl ([.ref h0, .int p0, .int p1])).length) Slot.unset).toArray = ls at hl ⊢
  have hl : lv_has ls 3 [(0, .ref h0), (1, .int p0), (2, .int p1)] := hl
  refine lv_aload_n hx hb d_M_part_0 rfl (lv_at hl 0 rfl) ?_
  refine lv_iload_n hx hb d_M_part_1 rfl (lv_at hl 1 rfl) ?_
  refine lv_if_lt (tgt := 18) hx hb d_M_part_2 (by decide) (fun c_1 => ?_) (fun c_1 => ?_)
  · refine lv_iconst (v := nI 1) hx hb d_M_part_18 (by decide) ?_
    refine lv_goto (tgt := 23) hx hb d_M_part_19 (by decide) ?_
    refine va_put (D := (dC, dI)) (ci := 1) (v := .int (nI 1)) (ty := .int) (C := R_M) (T := F_M) (N := 8) hx hb htB in_M t_M t_M_ok n_M hown hK hP hD hS 0 rfl rfl 0 (by decide) (htB _ hfl_M_26) (fun _ h9 => h9) rfl (by decide +kernel) rfl rfl (Nat.le_of_ble_eq_true rfl) d_M_part_23 (fun H locs hP hD hS => ?_)
    have hP : va_P (dC, dI) classes (wM h0 a1 a2 a3 a4 a5 cI cZ (nI 1) tx pt qt ar nr tn pn) H := hP
    have hD : va_D A (wM h0 a1 a2 a3 a4 a5 cI cZ (nI 1) tx pt qt ar nr tn pn) := hD
    refine lv_aload_n hx hb d_M_part_26 rfl (lv_at hl 0 rfl) ?_
    refine va_get (D := (dC, dI)) (ci := 1) (v := .int (nI 1)) (C := R_M) (T := F_M) (N := 8) hx hb htB in_M hown hK hP 0 rfl rfl 0 (by decide) (htB _ hfl_M_26) (fun _ h9 => h9) rfl d_M_part_27 ?_
    refine lv_if_le (tgt := 35) hx hb d_M_part_30 (by decide) (fun c_2 => ?_) (fun c_2 => ?_)
    · exact absurd c_2 (by decide)
    · clear c_2
      refine lv_iconst (v := nI 0) hx hb d_M_part_33 (by decide) ?_
      have hno : okp tn p0 p1 = false := by first | exact okp_a ‹_› | exact okp_b ‹_› | exact okp_c ‹_›
      exact W.zret (v := nI 0) hx hb hr (by rfl) (fun t ht hW => ⟨⟨_, (nI 1, ar, nr), rfl, ⟨by rw [if_neg (by rw [hno]; decide)], by rw [if_neg (by rw [hno]; decide)]⟩, by rw [ht]; exact hP, va_K.moved hW.alike hK, hD⟩, hS.F ht⟩) hS.2.2 d_M_part_34
  · refine lv_iload_n hx hb d_M_part_5 rfl (lv_at hl 2 rfl) ?_
    refine lv_iload_n hx hb d_M_part_6 rfl (lv_at hl 1 rfl) ?_
    refine lv_icmp_lt (tgt := 18) hx hb d_M_part_7 (by decide) (fun c_3 => ?_) (fun c_3 => ?_)
    · refine lv_iconst (v := nI 1) hx hb d_M_part_18 (by decide) ?_
      refine lv_goto (tgt := 23) hx hb d_M_part_19 (by decide) ?_
      refine va_put (D := (dC, dI)) (ci := 1) (v := .int (nI 1)) (ty := .int) (C := R_M) (T := F_M) (N := 8) hx hb htB in_M t_M t_M_ok n_M hown hK hP hD hS 0 rfl rfl 0 (by decide) (htB _ hfl_M_26) (fun _ h9 => h9) rfl (by decide +kernel) rfl rfl (Nat.le_of_ble_eq_true rfl) d_M_part_23 (fun H locs hP hD hS => ?_)
      have hP : va_P (dC, dI) classes (wM h0 a1 a2 a3 a4 a5 cI cZ (nI 1) tx pt qt ar nr tn pn) H := hP
      have hD : va_D A (wM h0 a1 a2 a3 a4 a5 cI cZ (nI 1) tx pt qt ar nr tn pn) := hD
      refine lv_aload_n hx hb d_M_part_26 rfl (lv_at hl 0 rfl) ?_
      refine va_get (D := (dC, dI)) (ci := 1) (v := .int (nI 1)) (C := R_M) (T := F_M) (N := 8) hx hb htB in_M hown hK hP 0 rfl rfl 0 (by decide) (htB _ hfl_M_26) (fun _ h9 => h9) rfl d_M_part_27 ?_
      refine lv_if_le (tgt := 35) hx hb d_M_part_30 (by decide) (fun c_4 => ?_) (fun c_4 => ?_)
      · exact absurd c_4 (by decide)
      · clear c_4
        refine lv_iconst (v := nI 0) hx hb d_M_part_33 (by decide) ?_
        have hno : okp tn p0 p1 = false := by first | exact okp_a ‹_› | exact okp_b ‹_› | exact okp_c ‹_›
        exact W.zret (v := nI 0) hx hb hr (by rfl) (fun t ht hW => ⟨⟨_, (nI 1, ar, nr), rfl, ⟨by rw [if_neg (by rw [hno]; decide)], by rw [if_neg (by rw [hno]; decide)]⟩, by rw [ht]; exact hP, va_K.moved hW.alike hK, hD⟩, hS.F ht⟩) hS.2.2 d_M_part_34
    · refine lv_iload_n hx hb d_M_part_10 rfl (lv_at hl 2 rfl) ?_
      refine lv_aload_n hx hb d_M_part_11 rfl (lv_at hl 0 rfl) ?_
      refine va_get (D := (dC, dI)) (ci := 1) (v := .int (nI tn)) (C := R_M) (T := F_M) (N := 8) hx hb htB in_M hown hK hP 0 rfl rfl 4 (by decide) (htB _ hfl_M_30) (fun _ h9 => h9) rfl d_M_part_12 ?_
      refine lv_icmp_le (tgt := 22) hx hb d_M_part_15 (by decide) (fun c_5 => ?_) (fun c_5 => ?_)
      · have hok := okp_y ‹¬ p0 < 0› ‹¬ p1 < p0› c_5
        obtain ⟨frm, too, hft, htt, rfl, rfl⟩ := okp_t ht ‹¬ p0 < 0› ‹¬ p1 < p0› c_5
        refine lv_iconst (v := nI 0) hx hb d_M_part_22 (by decide) ?_
        refine va_put (D := (dC, dI)) (ci := 1) (v := .int (nI 0)) (ty := .int) (C := R_M) (T := F_M) (N := 8) hx hb htB in_M t_M t_M_ok n_M hown hK hP hD hS 0 rfl rfl 0 (by decide) (htB _ hfl_M_26) (fun _ h9 => h9) rfl (by decide +kernel) rfl rfl (Nat.le_of_ble_eq_true rfl) d_M_part_23 (fun H locs hP hD hS => ?_)
        have hP : va_P (dC, dI) classes (wM h0 a1 a2 a3 a4 a5 cI cZ (nI 0) tx pt qt ar nr tn pn) H := hP
        have hD : va_D A (wM h0 a1 a2 a3 a4 a5 cI cZ (nI 0) tx pt qt ar nr tn pn) := hD
        refine lv_aload_n hx hb d_M_part_26 rfl (lv_at hl 0 rfl) ?_
        refine va_get (D := (dC, dI)) (ci := 1) (v := .int (nI 0)) (C := R_M) (T := F_M) (N := 8) hx hb htB in_M hown hK hP 0 rfl rfl 0 (by decide) (htB _ hfl_M_26) (fun _ h9 => h9) rfl d_M_part_27 ?_
        refine lv_if_le (tgt := 35) hx hb d_M_part_30 (by decide) (fun c_6 => ?_) (fun c_6 => ?_)
        · clear c_6
          refine lv_aload_n hx hb d_M_part_35 rfl (lv_at hl 0 rfl) ?_
          refine lv_iload_n hx hb d_M_part_36 rfl (lv_at hl 1 rfl) ?_
          refine lv_iload_n hx hb d_M_part_37 rfl (lv_at hl 2 rfl) ?_
          refine r_M_go hp hft (by omega) hx hb hml hown htB hK hP hD hS hA hl.1 (Nat.le_of_ble_eq_true rfl) ⟨Nat.le_of_ble_eq_true rfl, Nat.le_of_ble_eq_true rfl⟩ ⟨Nat.zero_le _, Nat.zero_le _⟩ d_M_part_38 (fun u1 H locs hu1 hP hD hS => ?_)
          refine lv_aload_n hx hb d_M_part_41 rfl (lv_at hl 0 rfl) ?_
          refine va_get (D := (dC, dI)) (ci := 1) (v := .ref a4) (C := R_M) (T := F_M) (N := 8) hx hb htB in_M hown hK hP 0 rfl rfl 6 (by decide) (htB _ hfl_M_20) (fun _ h9 => h9) rfl d_M_part_42 ?_
          refine lv_iload_n hx hb d_M_part_45 rfl (lv_at hl 2 rfl) ?_
          refine va_zald hx hb hK hP 4 1 rfl rfl (vp_in_nI (n := too) (by omega) (by decide)) d_M_part_46 ?_
          refine lv_topi (fun v_7 ev_7 => ?_)
          obtain rfl : v_7 = bI (mM tx pt qt pn frm too too) := (show v_7 = u1.1 too from ev_7.trans (by rw [nI_clamp (n := too) (by omega)])).trans (hu1 too (by omega))
          exact W.zret (v := bI (mM tx pt qt pn frm too too)) hx hb hr (bI_nar _) (fun t ht hW => ⟨⟨_, (nI 0, u1.1, u1.2), rfl, ⟨by rw [if_pos hok], by rw [if_pos hok, nI_clamp (n := frm) (by omega), nI_clamp (n := too) (by omega)]⟩, by rw [ht]; exact hP, va_K.moved hW.alike hK, hD⟩, hS.F ht⟩) hS.2.2 d_M_part_47
        · exact absurd c_6 (by decide)
      · refine lv_iconst (v := nI 1) hx hb d_M_part_18 (by decide) ?_
        refine lv_goto (tgt := 23) hx hb d_M_part_19 (by decide) ?_
        refine va_put (D := (dC, dI)) (ci := 1) (v := .int (nI 1)) (ty := .int) (C := R_M) (T := F_M) (N := 8) hx hb htB in_M t_M t_M_ok n_M hown hK hP hD hS 0 rfl rfl 0 (by decide) (htB _ hfl_M_26) (fun _ h9 => h9) rfl (by decide +kernel) rfl rfl (Nat.le_of_ble_eq_true rfl) d_M_part_23 (fun H locs hP hD hS => ?_)
        have hP : va_P (dC, dI) classes (wM h0 a1 a2 a3 a4 a5 cI cZ (nI 1) tx pt qt ar nr tn pn) H := hP
        have hD : va_D A (wM h0 a1 a2 a3 a4 a5 cI cZ (nI 1) tx pt qt ar nr tn pn) := hD
        refine lv_aload_n hx hb d_M_part_26 rfl (lv_at hl 0 rfl) ?_
        refine va_get (D := (dC, dI)) (ci := 1) (v := .int (nI 1)) (C := R_M) (T := F_M) (N := 8) hx hb htB in_M hown hK hP 0 rfl rfl 0 (by decide) (htB _ hfl_M_26) (fun _ h9 => h9) rfl d_M_part_27 ?_
        refine lv_if_le (tgt := 35) hx hb d_M_part_30 (by decide) (fun c_8 => ?_) (fun c_8 => ?_)
        · exact absurd c_8 (by decide)
        · clear c_8
          refine lv_iconst (v := nI 0) hx hb d_M_part_33 (by decide) ?_
          have hno : okp tn p0 p1 = false := by first | exact okp_a ‹_› | exact okp_b ‹_› | exact okp_c ‹_›
          exact W.zret (v := nI 0) hx hb hr (by rfl) (fun t ht hW => ⟨⟨_, (nI 1, ar, nr), rfl, ⟨by rw [if_neg (by rw [hno]; decide)], by rw [if_neg (by rw [hno]; decide)]⟩, by rw [ht]; exact hP, va_K.moved hW.alike hK, hD⟩, hS.F ht⟩) hS.2.2 d_M_part_34

set_option maxHeartbeats 4000000 in
set_option maxRecDepth 100000 in
theorem c_M_isSpecial (l : Launch) (dC : Nat → ClassId) (dI : Nat → Nat → Nat) (h0 a1 a2 a3 a4 a5 : Nat) (cI cZ : ClassId) (cd : Int32) (tx pt qt ar nr : Nat → Int32) (tn pn : Nat) (sz : Nat) (hp : pn ≤ 200) : Met l y_M_isSpecial (.code y_M_isSpecial b_M_isSpecial 3 (some .boolean) :: wB) (Rm 1 22) (va_Pc [.ref h0] (fun U => U.heap.size = sz ∧ va_P (dC, dI) classes (wM h0 a1 a2 a3 a4 a5 cI cZ cd tx pt qt ar nr tn pn) U.heap ∧ va_K (dC, dI) classes (tyIZ cI cZ) U ∧ va_D (fun _ => True) (wM h0 a1 a2 a3 a4 a5 cI cZ cd tx pt qt ar nr tn pn))) (va_Qi (fun (r : Int32) (u : Unit) => r = bI (sp pt qt pn pn)) (fun (u : Unit) (t : State) => va_P (dC, dI) classes (wM h0 a1 a2 a3 a4 a5 cI cZ ((nI 0)) tx pt qt ar nr tn pn) t.heap ∧ va_K (dC, dI) classes (tyIZ cI cZ) t ∧ va_D (va_A (wM h0 a1 a2 a3 a4 a5 cI cZ cd tx pt qt ar nr tn pn) sz) (wM h0 a1 a2 a3 a4 a5 cI cZ ((nI 0)) tx pt qt ar nr tn pn)) (va_A (wM h0 a1 a2 a3 a4 a5 cI cZ cd tx pt qt ar nr tn pn) sz)) 0 0 (va_A (wM h0 a1 a2 a3 a4 a5 cI cZ cd tx pt qt ar nr tn pn) sz) := by
  refine Met.ofW (cc := b_M_isSpecial) (maxL := 3) (ret := (some .boolean)) (by decide) rfl ?_
  intro p e s mm args below meth c s₁ B hml hv
  obtain ⟨rfl, hsz, hP, hK, hD0⟩ := hv
  have hx := B.exec
  have hb := B.bytes
  have hr := B.returns
  have hts := atoms_spec (ws := (.code y_M_isSpecial b_M_isSpecial 3 (some .boolean) :: wB)) B.pre
  have htB : ∀ w ∈ wB, w.before _ s = true := fun w h => hts w (List.mem_cons_of_mem _ h)
  have hown : s.vm.findClass R_M = some mm.cls := findClass_of_methodNamed B.named
  have hlocks := B.notSynchronized
  subst hsz
  have hD := hD0.self (sz := s.heap.size)
  generalize hAe : va_A (wM h0 a1 a2 a3 a4 a5 cI cZ cd tx pt qt ar nr tn pn) s.heap.size = A at hD ⊢
  have hA : ∀ q : Nat, s.heap.size ≤ q → A q := fun q h => by rw [← hAe]; exact Or.inr h
  have hS : va_S A s.heap s.heap [] := va_S.rf
  have hP : va_P (dC, dI) classes (wM h0 a1 a2 a3 a4 a5 cI cZ cd tx pt qt ar nr tn pn) s.heap := hP
  have hl := lv_entry ([.ref h0]) (n := 3) (Nat.le_of_ble_eq_true rfl)
  rw [lg_entry_eq]
  generalize (lg_sl ([.ref h0]) ++ List.replicate (3 - (lg_sl ([.ref h0])).length) Slot.unset).toArray = ls at hl ⊢
  have hl : lv_has ls 3 [(0, .ref h0)] := hl
  refine lv_aload_n hx hb d_M_isSpecial_0 rfl (lv_at hl 0 rfl) ?_
  refine lv_iconst (v := nI 0) hx hb d_M_isSpecial_1 (by decide) ?_
  refine va_put (D := (dC, dI)) (ci := 1) (v := .int (nI 0)) (ty := .int) (C := R_M) (T := F_M) (N := 8) hx hb htB in_M t_M t_M_ok n_M hown hK hP hD hS 0 rfl rfl 0 (by decide) (htB _ hfl_M_26) (fun _ h9 => h9) rfl (by decide +kernel) rfl rfl (Nat.le_of_ble_eq_true rfl) d_M_isSpecial_2 (fun H locs hP hD hS => ?_)
  have hP : va_P (dC, dI) classes (wM h0 a1 a2 a3 a4 a5 cI cZ (nI 0) tx pt qt ar nr tn pn) H := hP
  have hD : va_D A (wM h0 a1 a2 a3 a4 a5 cI cZ (nI 0) tx pt qt ar nr tn pn) := hD
  refine lv_iconst (v := nI 0) hx hb d_M_isSpecial_5 (by decide) ?_
  refine lv_istore_n (lv' := [(1, .int (nI 0)), (0, .ref h0)]) hx hb d_M_isSpecial_6 rfl hl (by decide) rfl (fun ls hl => ?_)
  refine lv_iconst (v := nI 0) hx hb d_M_isSpecial_7 (by decide) ?_
  refine lv_istore_n (lv' := [(2, .int (nI 0)), (1, .int (nI 0)), (0, .ref h0)]) hx hb d_M_isSpecial_8 rfl hl (by decide) rfl (fun ls hl => ?_)
  have loop : ∀ (n i : Nat), i ≤ 1000 → 1000 < i + n → i ≤ pn → ∀ ls : Array Slot, lv_has ls 3 [(1, .int (bI (sp pt qt pn i))), (2, .int (nI i)), (0, .ref h0)] → W p l e (Rm 1 22) s mm [.ref h0].toArray below meth c H locs 0 0 (MQ below (va_Qi (fun (r : Int32) (u : Unit) => r = bI (sp pt qt pn pn)) (fun (u : Unit) (t : State) => va_P (dC, dI) classes (wM h0 a1 a2 a3 a4 a5 cI cZ ((nI 0)) tx pt qt ar nr tn pn) t.heap ∧ va_K (dC, dI) classes (tyIZ cI cZ) t ∧ va_D A (wM h0 a1 a2 a3 a4 a5 cI cZ ((nI 0)) tx pt qt ar nr tn pn)) A) [.ref h0].toArray s 0 0 A) (F0 mm 9 ls []) := by
    intro n
    induction n with
    | zero => intro i h1 h2; exact absurd h2 (by omega)
    | succ n ih =>
      intro i hi hn hip ls hl
      refine lv_iload_n hx hb d_M_isSpecial_9 rfl (lv_at hl 1 rfl) ?_
      refine lv_aload_n hx hb d_M_isSpecial_10 rfl (lv_at hl 2 rfl) ?_
      refine va_get (D := (dC, dI)) (ci := 1) (v := .int (nI pn)) (C := R_M) (T := F_M) (N := 8) hx hb htB in_M hown hK hP 0 rfl rfl 5 (by decide) (htB _ hfl_M_35) (fun _ h9 => h9) rfl d_M_isSpecial_11 ?_
      refine lv_icmp_ge (tgt := 63) hx hb d_M_isSpecial_14 (by decide) (fun c_1 => ?_) (fun c_1 => ?_)
      · have c_1 := (nI_leI (by omega) (by omega)).mp c_1
        refine lv_iload_n hx hb d_M_isSpecial_63 rfl (lv_at hl 0 rfl) ?_
        exact W.zret (v := bI (sp pt qt pn i)) hx hb hr (bI_nar _) (fun t ht hW => ⟨⟨_, (), rfl, by rw [show i = pn by omega], by rw [ht]; exact hP, va_K.moved hW.alike hK, hD⟩, hS.F ht⟩) hS.2.2 d_M_isSpecial_64
      · have c_1 := mt (nI_leI (by omega) (by omega)).mpr c_1
        refine lv_iload_n hx hb d_M_isSpecial_17 rfl (lv_at hl 0 rfl) ?_
        refine lv_if_ne (tgt := 51) hx hb d_M_isSpecial_18 (by decide) (fun c_2 => ?_) (fun c_2 => ?_)
        · have c_2 := bI_nz.mp c_2
          refine lv_iconst (v := nI 1) hx hb d_M_isSpecial_51 (by decide) ?_
          refine lv_goto (tgt := 56) hx hb d_M_isSpecial_52 (by decide) ?_
          refine lv_istore_n (lv' := [(1, .int (nI 1)), (2, .int (nI i)), (0, .ref h0)]) hx hb d_M_isSpecial_56 rfl hl (by decide) rfl (fun ls hl => ?_)
          refine lv_iinc (v := nI (i + 1)) (lv' := [(2, .int (nI (i + 1))), (1, .int (nI 1)), (0, .ref h0)]) hx hb d_M_isSpecial_57 hl (k := 1) rfl (nI_add _ 1) (by decide) rfl (fun ls hl => ?_)
          refine lv_goto (tgt := 9) hx hb d_M_isSpecial_60 (by decide) ?_
          have hs9 : sp pt qt pn (i + 1) = true := by
            show (sp pt qt pn i || sa pt qt pn i) = _
            first | (rw [‹sp pt qt pn i = true›]; rfl) | rw [sa_1 (by first | exact Or.inl ‹_› | exact Or.inr (Or.inl ‹_›) | exact Or.inr (Or.inr ‹_›)), Bool.or_true]
          exact ih (i + 1) (by omega) (by omega) (by omega) ls (by rw [hs9]; exact (lv_sub hl [1, 0, 2] rfl))
        · have c_2 := bI_z.mp c_2
          refine lv_aload_n hx hb d_M_isSpecial_21 rfl (lv_at hl 2 rfl) ?_
          refine lv_iload_n hx hb d_M_isSpecial_22 rfl (lv_at hl 1 rfl) ?_
          refine lv_bipush (v := nI 42) hx hb d_M_isSpecial_23 (by decide) ?_
          refine r_M_is hp (by omega) hx hb hml hown htB hK hP hl.1 (Nat.le_of_ble_eq_true rfl) ⟨Nat.le_of_ble_eq_true rfl, Nat.le_of_ble_eq_true rfl⟩ ⟨Nat.zero_le _, Nat.zero_le _⟩ d_M_isSpecial_25 ?_
          refine lv_if_ne (tgt := 51) hx hb d_M_isSpecial_28 (by decide) (fun c_3 => ?_) (fun c_3 => ?_)
          · have c_3 := bI_nz.mp c_3
            refine lv_iconst (v := nI 1) hx hb d_M_isSpecial_51 (by decide) ?_
            refine lv_goto (tgt := 56) hx hb d_M_isSpecial_52 (by decide) ?_
            refine lv_istore_n (lv' := [(1, .int (nI 1)), (2, .int (nI i)), (0, .ref h0)]) hx hb d_M_isSpecial_56 rfl hl (by decide) rfl (fun ls hl => ?_)
            refine lv_iinc (v := nI (i + 1)) (lv' := [(2, .int (nI (i + 1))), (1, .int (nI 1)), (0, .ref h0)]) hx hb d_M_isSpecial_57 hl (k := 1) rfl (nI_add _ 1) (by decide) rfl (fun ls hl => ?_)
            refine lv_goto (tgt := 9) hx hb d_M_isSpecial_60 (by decide) ?_
            have hs9 : sp pt qt pn (i + 1) = true := by
              show (sp pt qt pn i || sa pt qt pn i) = _
              first | (rw [‹sp pt qt pn i = true›]; rfl) | rw [sa_1 (by first | exact Or.inl ‹_› | exact Or.inr (Or.inl ‹_›) | exact Or.inr (Or.inr ‹_›)), Bool.or_true]
            exact ih (i + 1) (by omega) (by omega) (by omega) ls (by rw [hs9]; exact (lv_sub hl [1, 0, 2] rfl))
          · have c_3 := bI_z.mp c_3
            refine lv_aload_n hx hb d_M_isSpecial_31 rfl (lv_at hl 2 rfl) ?_
            refine lv_iload_n hx hb d_M_isSpecial_32 rfl (lv_at hl 1 rfl) ?_
            refine lv_bipush (v := nI 63) hx hb d_M_isSpecial_33 (by decide) ?_
            refine r_M_is hp (by omega) hx hb hml hown htB hK hP hl.1 (Nat.le_of_ble_eq_true rfl) ⟨Nat.le_of_ble_eq_true rfl, Nat.le_of_ble_eq_true rfl⟩ ⟨Nat.zero_le _, Nat.zero_le _⟩ d_M_isSpecial_35 ?_
            refine lv_if_ne (tgt := 51) hx hb d_M_isSpecial_38 (by decide) (fun c_4 => ?_) (fun c_4 => ?_)
            · have c_4 := bI_nz.mp c_4
              refine lv_iconst (v := nI 1) hx hb d_M_isSpecial_51 (by decide) ?_
              refine lv_goto (tgt := 56) hx hb d_M_isSpecial_52 (by decide) ?_
              refine lv_istore_n (lv' := [(1, .int (nI 1)), (2, .int (nI i)), (0, .ref h0)]) hx hb d_M_isSpecial_56 rfl hl (by decide) rfl (fun ls hl => ?_)
              refine lv_iinc (v := nI (i + 1)) (lv' := [(2, .int (nI (i + 1))), (1, .int (nI 1)), (0, .ref h0)]) hx hb d_M_isSpecial_57 hl (k := 1) rfl (nI_add _ 1) (by decide) rfl (fun ls hl => ?_)
              refine lv_goto (tgt := 9) hx hb d_M_isSpecial_60 (by decide) ?_
              have hs9 : sp pt qt pn (i + 1) = true := by
                show (sp pt qt pn i || sa pt qt pn i) = _
                first | (rw [‹sp pt qt pn i = true›]; rfl) | rw [sa_1 (by first | exact Or.inl ‹_› | exact Or.inr (Or.inl ‹_›) | exact Or.inr (Or.inr ‹_›)), Bool.or_true]
              exact ih (i + 1) (by omega) (by omega) (by omega) ls (by rw [hs9]; exact (lv_sub hl [1, 0, 2] rfl))
            · have c_4 := bI_z.mp c_4
              refine lv_aload_n hx hb d_M_isSpecial_41 rfl (lv_at hl 2 rfl) ?_
              refine lv_iload_n hx hb d_M_isSpecial_42 rfl (lv_at hl 1 rfl) ?_
              refine lv_bipush (v := nI 91) hx hb d_M_isSpecial_43 (by decide) ?_
              refine r_M_is hp (by omega) hx hb hml hown htB hK hP hl.1 (Nat.le_of_ble_eq_true rfl) ⟨Nat.le_of_ble_eq_true rfl, Nat.le_of_ble_eq_true rfl⟩ ⟨Nat.zero_le _, Nat.zero_le _⟩ d_M_isSpecial_45 ?_
              refine lv_if_eq (tgt := 55) hx hb d_M_isSpecial_48 (by decide) (fun c_5 => ?_) (fun c_5 => ?_)
              · have c_5 := bI_z.mp c_5
                refine lv_iconst (v := nI 0) hx hb d_M_isSpecial_55 (by decide) ?_
                refine lv_istore_n (lv' := [(1, .int (nI 0)), (2, .int (nI i)), (0, .ref h0)]) hx hb d_M_isSpecial_56 rfl hl (by decide) rfl (fun ls hl => ?_)
                refine lv_iinc (v := nI (i + 1)) (lv' := [(2, .int (nI (i + 1))), (1, .int (nI 0)), (0, .ref h0)]) hx hb d_M_isSpecial_57 hl (k := 1) rfl (nI_add _ 1) (by decide) rfl (fun ls hl => ?_)
                refine lv_goto (tgt := 9) hx hb d_M_isSpecial_60 (by decide) ?_
                have hs9 : sp pt qt pn (i + 1) = false := by
                  show (sp pt qt pn i || sa pt qt pn i) = _
                  rw [‹sp pt qt pn i = false›, sa_0 ‹_› ‹_› ‹_›]; rfl
                exact ih (i + 1) (by omega) (by omega) (by omega) ls (by rw [hs9]; exact (lv_sub hl [1, 0, 2] rfl))
              · have c_5 := bI_nz.mp c_5
                refine lv_iconst (v := nI 1) hx hb d_M_isSpecial_51 (by decide) ?_
                refine lv_goto (tgt := 56) hx hb d_M_isSpecial_52 (by decide) ?_
                refine lv_istore_n (lv' := [(1, .int (nI 1)), (2, .int (nI i)), (0, .ref h0)]) hx hb d_M_isSpecial_56 rfl hl (by decide) rfl (fun ls hl => ?_)
                refine lv_iinc (v := nI (i + 1)) (lv' := [(2, .int (nI (i + 1))), (1, .int (nI 1)), (0, .ref h0)]) hx hb d_M_isSpecial_57 hl (k := 1) rfl (nI_add _ 1) (by decide) rfl (fun ls hl => ?_)
                refine lv_goto (tgt := 9) hx hb d_M_isSpecial_60 (by decide) ?_
                have hs9 : sp pt qt pn (i + 1) = true := by
                  show (sp pt qt pn i || sa pt qt pn i) = _
                  first | (rw [‹sp pt qt pn i = true›]; rfl) | rw [sa_1 (by first | exact Or.inl ‹_› | exact Or.inr (Or.inl ‹_›) | exact Or.inr (Or.inr ‹_›)), Bool.or_true]
                exact ih (i + 1) (by omega) (by omega) (by omega) ls (by rw [hs9]; exact (lv_sub hl [1, 0, 2] rfl))
  exact loop 1001 0 (by omega) (by omega) (by omega) ls (lv_sub hl [1, 0, 2] rfl)

set_option maxHeartbeats 4000000 in
set_option maxRecDepth 100000 in
theorem c_M_count (l : Launch) (dC : Nat → ClassId) (dI : Nat → Nat → Nat) (h0 a1 a2 a3 a4 a5 : Nat) (cI cZ : ClassId) (cd : Int32) (tx pt qt ar nr : Nat → Int32) (tn pn : Nat) (sz : Nat) (hp : pn ≤ 200) (wh : Int32) : Met l y_M_count (.code y_M_count b_M_count 4 (some .int) :: wB) (Rm 2 44) (va_Pc [.ref h0, .int wh] (fun U => U.heap.size = sz ∧ va_P (dC, dI) classes (wM h0 a1 a2 a3 a4 a5 cI cZ cd tx pt qt ar nr tn pn) U.heap ∧ va_K (dC, dI) classes (tyIZ cI cZ) U ∧ va_D (fun _ => True) (wM h0 a1 a2 a3 a4 a5 cI cZ cd tx pt qt ar nr tn pn))) (va_Qi (fun (r : Int32) (u : Unit) => r = ctX tn pn pt qt wh) (fun (u : Unit) (t : State) => va_P (dC, dI) classes (wM h0 a1 a2 a3 a4 a5 cI cZ ((nI 0)) tx pt qt ar nr tn pn) t.heap ∧ va_K (dC, dI) classes (tyIZ cI cZ) t ∧ va_D (va_A (wM h0 a1 a2 a3 a4 a5 cI cZ cd tx pt qt ar nr tn pn) sz) (wM h0 a1 a2 a3 a4 a5 cI cZ ((nI 0)) tx pt qt ar nr tn pn)) (va_A (wM h0 a1 a2 a3 a4 a5 cI cZ cd tx pt qt ar nr tn pn) sz)) 0 0 (va_A (wM h0 a1 a2 a3 a4 a5 cI cZ cd tx pt qt ar nr tn pn) sz) := by
  refine Met.ofW (cc := b_M_count) (maxL := 4) (ret := (some .int)) (by decide) rfl ?_
  intro p e s mm args below meth c s₁ B hml hv
  obtain ⟨rfl, hsz, hP, hK, hD0⟩ := hv
  have hx := B.exec
  have hb := B.bytes
  have hr := B.returns
  have hts := atoms_spec (ws := (.code y_M_count b_M_count 4 (some .int) :: wB)) B.pre
  have htB : ∀ w ∈ wB, w.before _ s = true := fun w h => hts w (List.mem_cons_of_mem _ h)
  have hown : s.vm.findClass R_M = some mm.cls := findClass_of_methodNamed B.named
  have hlocks := B.notSynchronized
  subst hsz
  have hD := hD0.self (sz := s.heap.size)
  generalize hAe : va_A (wM h0 a1 a2 a3 a4 a5 cI cZ cd tx pt qt ar nr tn pn) s.heap.size = A at hD ⊢
  have hA : ∀ q : Nat, s.heap.size ≤ q → A q := fun q h => by rw [← hAe]; exact Or.inr h
  have hS : va_S A s.heap s.heap [] := va_S.rf
  have hP : va_P (dC, dI) classes (wM h0 a1 a2 a3 a4 a5 cI cZ cd tx pt qt ar nr tn pn) s.heap := hP
  have hl := lv_entry ([.ref h0, .int wh]) (n := 4) (Nat.le_of_ble_eq_true rfl)
  rw [lg_entry_eq]
  generalize (lg_sl ([.ref h0, .int wh]) ++ List.replicate (4 - (lg_sl ([.ref h0, .int wh])).length) Slot.unset).toArray = ls at hl ⊢
  have hl : lv_has ls 4 [(0, .ref h0), (1, .int wh)] := hl
  refine lv_aload_n hx hb d_M_count_0 rfl (lv_at hl 0 rfl) ?_
  refine lv_iconst (v := nI 0) hx hb d_M_count_1 (by decide) ?_
  refine va_put (D := (dC, dI)) (ci := 1) (v := .int (nI 0)) (ty := .int) (C := R_M) (T := F_M) (N := 8) hx hb htB in_M t_M t_M_ok n_M hown hK hP hD hS 0 rfl rfl 0 (by decide) (htB _ hfl_M_26) (fun _ h9 => h9) rfl (by decide +kernel) rfl rfl (Nat.le_of_ble_eq_true rfl) d_M_count_2 (fun H locs hP hD hS => ?_)
  have hP : va_P (dC, dI) classes (wM h0 a1 a2 a3 a4 a5 cI cZ (nI 0) tx pt qt ar nr tn pn) H := hP
  have hD : va_D A (wM h0 a1 a2 a3 a4 a5 cI cZ (nI 0) tx pt qt ar nr tn pn) := hD
  refine lv_iconst (v := nI 0) hx hb d_M_count_5 (by decide) ?_
  refine lv_istore_n (lv' := [(2, .int (nI 0)), (0, .ref h0), (1, .int wh)]) hx hb d_M_count_6 rfl hl (by decide) rfl (fun ls hl => ?_)
  refine lv_iconst (v := nI 0) hx hb d_M_count_7 (by decide) ?_
  refine lv_istore_n (lv' := [(3, .int (nI 0)), (2, .int (nI 0)), (0, .ref h0), (1, .int wh)]) hx hb d_M_count_8 rfl hl (by decide) rfl (fun ls hl => ?_)
  have loop : ∀ (n i : Nat), i ≤ 1000 → 1000 < i + n → i ≤ pn → ∀ ls : Array Slot, lv_has ls 4 [(2, .int (nI (cw pt qt pn wh i))), (3, .int (nI i)), (0, .ref h0), (1, .int wh)] → W p l e (Rm 2 44) s mm [.ref h0, .int wh].toArray below meth c H locs 0 0 (MQ below (va_Qi (fun (r : Int32) (u : Unit) => r = ctX tn pn pt qt wh) (fun (u : Unit) (t : State) => va_P (dC, dI) classes (wM h0 a1 a2 a3 a4 a5 cI cZ ((nI 0)) tx pt qt ar nr tn pn) t.heap ∧ va_K (dC, dI) classes (tyIZ cI cZ) t ∧ va_D A (wM h0 a1 a2 a3 a4 a5 cI cZ ((nI 0)) tx pt qt ar nr tn pn)) A) [.ref h0, .int wh].toArray s 0 0 A) (F0 mm 9 ls []) := by
    intro n
    induction n with
    | zero => intro i h1 h2; exact absurd h2 (by omega)
    | succ n ih =>
      intro i hi hn hip ls hl
      have hcw := cw_le pt qt pn wh i
      refine lv_iload_n hx hb d_M_count_9 rfl (lv_at hl 1 rfl) ?_
      refine lv_aload_n hx hb d_M_count_10 rfl (lv_at hl 2 rfl) ?_
      refine va_get (D := (dC, dI)) (ci := 1) (v := .int (nI pn)) (C := R_M) (T := F_M) (N := 8) hx hb htB in_M hown hK hP 0 rfl rfl 5 (by decide) (htB _ hfl_M_35) (fun _ h9 => h9) rfl d_M_count_11 ?_
      refine lv_icmp_ge (tgt := 62) hx hb d_M_count_14 (by decide) (fun c_1 => ?_) (fun c_1 => ?_)
      · have c_1 := (nI_leI (by omega) (by omega)).mp c_1
        refine lv_iload_n hx hb d_M_count_62 rfl (lv_at hl 3 rfl) ?_
        refine lv_if_ne (tgt := 73) hx hb d_M_count_63 (by decide) (fun c_2 => ?_) (fun c_2 => ?_)
        · have c_2 : ¬ wh = nI 0 := c_2
          refine lv_iload_n hx hb d_M_count_73 rfl (lv_at hl 3 rfl) ?_
          refine lv_iconst (v := nI 1) hx hb d_M_count_74 (by decide) ?_
          refine lv_icmp_ne (tgt := 85) hx hb d_M_count_75 (by decide) (fun c_3 => ?_) (fun c_3 => ?_)
          · refine lv_iload_n hx hb d_M_count_85 rfl (lv_at hl 3 rfl) ?_
            refine lv_iconst (v := nI 2) hx hb d_M_count_86 (by decide) ?_
            refine lv_icmp_eq (tgt := 95) hx hb d_M_count_87 (by decide) (fun c_4 => ?_) (fun c_4 => ?_)
            · refine lv_iload_n hx hb d_M_count_95 rfl (lv_at hl 0 rfl) ?_
              refine lv_goto (tgt := 100) hx hb d_M_count_96 (by decide) ?_
              exact W.iret (v := nI (cw pt qt pn wh i)) hx hb hr (fun t ht hW => ⟨⟨_, (), rfl, by first | (unfold ctX; rw [if_pos ‹wh = nI 0›]) | (unfold ctX; rw [if_neg ‹¬ wh = nI 0›, if_pos ‹wh = nI 1›]) | (unfold ctX; rw [if_neg ‹¬ wh = nI 0›, if_neg ‹¬ wh = nI 1›, if_pos ‹wh = nI 2›, show i = pn by omega]; unfold cw; rw [if_pos ‹wh = nI 2›]) | (unfold ctX; rw [if_neg ‹¬ wh = nI 0›, if_neg ‹¬ wh = nI 1›, if_neg ‹¬ wh = nI 2›, if_pos ‹wh = nI 3›, show i = pn by omega]; unfold cw; rw [if_neg ‹¬ wh = nI 2›]) | (unfold ctX; rw [if_neg ‹¬ wh = nI 0›, if_neg ‹¬ wh = nI 1›, if_neg ‹¬ wh = nI 2›, if_neg ‹¬ wh = nI 3›]), by rw [ht]; exact hP, va_K.moved hW.alike hK, hD⟩, hS.F ht⟩) hS.2.2 d_M_count_100
            · refine lv_iload_n hx hb d_M_count_90 rfl (lv_at hl 3 rfl) ?_
              refine lv_iconst (v := nI 3) hx hb d_M_count_91 (by decide) ?_
              refine lv_icmp_ne (tgt := 99) hx hb d_M_count_92 (by decide) (fun c_5 => ?_) (fun c_5 => ?_)
              · refine lv_iconst (v := -1) hx hb d_M_count_99 (by decide) ?_
                exact W.iret (v := -1) hx hb hr (fun t ht hW => ⟨⟨_, (), rfl, by first | (unfold ctX; rw [if_pos ‹wh = nI 0›]) | (unfold ctX; rw [if_neg ‹¬ wh = nI 0›, if_pos ‹wh = nI 1›]) | (unfold ctX; rw [if_neg ‹¬ wh = nI 0›, if_neg ‹¬ wh = nI 1›, if_pos ‹wh = nI 2›, show i = pn by omega]; unfold cw; rw [if_pos ‹wh = nI 2›]) | (unfold ctX; rw [if_neg ‹¬ wh = nI 0›, if_neg ‹¬ wh = nI 1›, if_neg ‹¬ wh = nI 2›, if_pos ‹wh = nI 3›, show i = pn by omega]; unfold cw; rw [if_neg ‹¬ wh = nI 2›]) | (unfold ctX; rw [if_neg ‹¬ wh = nI 0›, if_neg ‹¬ wh = nI 1›, if_neg ‹¬ wh = nI 2›, if_neg ‹¬ wh = nI 3›]), by rw [ht]; exact hP, va_K.moved hW.alike hK, hD⟩, hS.F ht⟩) hS.2.2 d_M_count_100
              · refine lv_iload_n hx hb d_M_count_95 rfl (lv_at hl 0 rfl) ?_
                refine lv_goto (tgt := 100) hx hb d_M_count_96 (by decide) ?_
                exact W.iret (v := nI (cw pt qt pn wh i)) hx hb hr (fun t ht hW => ⟨⟨_, (), rfl, by first | (unfold ctX; rw [if_pos ‹wh = nI 0›]) | (unfold ctX; rw [if_neg ‹¬ wh = nI 0›, if_pos ‹wh = nI 1›]) | (unfold ctX; rw [if_neg ‹¬ wh = nI 0›, if_neg ‹¬ wh = nI 1›, if_pos ‹wh = nI 2›, show i = pn by omega]; unfold cw; rw [if_pos ‹wh = nI 2›]) | (unfold ctX; rw [if_neg ‹¬ wh = nI 0›, if_neg ‹¬ wh = nI 1›, if_neg ‹¬ wh = nI 2›, if_pos ‹wh = nI 3›, show i = pn by omega]; unfold cw; rw [if_neg ‹¬ wh = nI 2›]) | (unfold ctX; rw [if_neg ‹¬ wh = nI 0›, if_neg ‹¬ wh = nI 1›, if_neg ‹¬ wh = nI 2›, if_neg ‹¬ wh = nI 3›]), by rw [ht]; exact hP, va_K.moved hW.alike hK, hD⟩, hS.F ht⟩) hS.2.2 d_M_count_100
          · refine lv_aload_n hx hb d_M_count_78 rfl (lv_at hl 2 rfl) ?_
            refine va_get (D := (dC, dI)) (ci := 1) (v := .int (nI pn)) (C := R_M) (T := F_M) (N := 8) hx hb htB in_M hown hK hP 0 rfl rfl 5 (by decide) (htB _ hfl_M_35) (fun _ h9 => h9) rfl d_M_count_79 ?_
            refine lv_goto (tgt := 100) hx hb d_M_count_82 (by decide) ?_
            exact W.iret (v := nI pn) hx hb hr (fun t ht hW => ⟨⟨_, (), rfl, by first | (unfold ctX; rw [if_pos ‹wh = nI 0›]) | (unfold ctX; rw [if_neg ‹¬ wh = nI 0›, if_pos ‹wh = nI 1›]) | (unfold ctX; rw [if_neg ‹¬ wh = nI 0›, if_neg ‹¬ wh = nI 1›, if_pos ‹wh = nI 2›, show i = pn by omega]; unfold cw; rw [if_pos ‹wh = nI 2›]) | (unfold ctX; rw [if_neg ‹¬ wh = nI 0›, if_neg ‹¬ wh = nI 1›, if_neg ‹¬ wh = nI 2›, if_pos ‹wh = nI 3›, show i = pn by omega]; unfold cw; rw [if_neg ‹¬ wh = nI 2›]) | (unfold ctX; rw [if_neg ‹¬ wh = nI 0›, if_neg ‹¬ wh = nI 1›, if_neg ‹¬ wh = nI 2›, if_neg ‹¬ wh = nI 3›]), by rw [ht]; exact hP, va_K.moved hW.alike hK, hD⟩, hS.F ht⟩) hS.2.2 d_M_count_100
        · have c_2 : wh = nI 0 := c_2
          refine lv_aload_n hx hb d_M_count_66 rfl (lv_at hl 2 rfl) ?_
          refine va_get (D := (dC, dI)) (ci := 1) (v := .int (nI tn)) (C := R_M) (T := F_M) (N := 8) hx hb htB in_M hown hK hP 0 rfl rfl 4 (by decide) (htB _ hfl_M_30) (fun _ h9 => h9) rfl d_M_count_67 ?_
          refine lv_goto (tgt := 100) hx hb d_M_count_70 (by decide) ?_
          exact W.iret (v := nI tn) hx hb hr (fun t ht hW => ⟨⟨_, (), rfl, by first | (unfold ctX; rw [if_pos ‹wh = nI 0›]) | (unfold ctX; rw [if_neg ‹¬ wh = nI 0›, if_pos ‹wh = nI 1›]) | (unfold ctX; rw [if_neg ‹¬ wh = nI 0›, if_neg ‹¬ wh = nI 1›, if_pos ‹wh = nI 2›, show i = pn by omega]; unfold cw; rw [if_pos ‹wh = nI 2›]) | (unfold ctX; rw [if_neg ‹¬ wh = nI 0›, if_neg ‹¬ wh = nI 1›, if_neg ‹¬ wh = nI 2›, if_pos ‹wh = nI 3›, show i = pn by omega]; unfold cw; rw [if_neg ‹¬ wh = nI 2›]) | (unfold ctX; rw [if_neg ‹¬ wh = nI 0›, if_neg ‹¬ wh = nI 1›, if_neg ‹¬ wh = nI 2›, if_neg ‹¬ wh = nI 3›]), by rw [ht]; exact hP, va_K.moved hW.alike hK, hD⟩, hS.F ht⟩) hS.2.2 d_M_count_100
      · have c_1 := mt (nI_leI (by omega) (by omega)).mpr c_1
        refine lv_iload_n hx hb d_M_count_17 rfl (lv_at hl 0 rfl) ?_
        refine lv_iload_n hx hb d_M_count_18 rfl (lv_at hl 3 rfl) ?_
        refine lv_iconst (v := nI 2) hx hb d_M_count_19 (by decide) ?_
        refine lv_icmp_ne (tgt := 40) hx hb d_M_count_20 (by decide) (fun c_6 => ?_) (fun c_6 => ?_)
        · refine lv_aload_n hx hb d_M_count_40 rfl (lv_at hl 2 rfl) ?_
          refine lv_iload_n hx hb d_M_count_41 rfl (lv_at hl 1 rfl) ?_
          refine r_M_closed hp (by omega) hx hb hml hown htB hK hP hl.1 (Nat.le_of_ble_eq_true rfl) ⟨Nat.le_of_ble_eq_true rfl, Nat.le_of_ble_eq_true rfl⟩ ⟨Nat.zero_le _, Nat.zero_le _⟩ d_M_count_42 ?_
          refine lv_iconst (v := -1) hx hb d_M_count_45 (by decide) ?_
          refine lv_icmp_eq (tgt := 53) hx hb d_M_count_46 (by decide) (fun c_7 => ?_) (fun c_7 => ?_)
          · have c_7 := (cl_m1 hp).mp c_7
            refine lv_iconst (v := nI 0) hx hb d_M_count_53 (by decide) ?_
            refine lv_iadd hx hb d_M_count_54 ?_
            refine lv_topi (fun v_8 ev_8 => ?_)
            obtain rfl : v_8 = nI (cw pt qt pn wh i + 0) := ev_8.trans (nI_add _ _)
            refine lv_istore_n (lv' := [(2, .int (nI (cw pt qt pn wh i + 0))), (3, .int (nI i)), (0, .ref h0), (1, .int wh)]) hx hb d_M_count_55 rfl hl (by decide) rfl (fun ls hl => ?_)
            refine lv_iinc (v := nI (i + 1)) (lv' := [(3, .int (nI (i + 1))), (2, .int (nI (cw pt qt pn wh i + 0))), (0, .ref h0), (1, .int wh)]) hx hb d_M_count_56 hl (k := 1) rfl (nI_add _ 1) (by decide) rfl (fun ls hl => ?_)
            refine lv_goto (tgt := 9) hx hb d_M_count_59 (by decide) ?_
            have hs9 : cw pt qt pn wh (i + 1) = cw pt qt pn wh i + 0 := by first | exact cw_qn ‹_› ‹_› | exact cw_sn ‹_› ‹_›
            exact ih (i + 1) (by omega) (by omega) (by omega) ls (by rw [hs9]; exact (lv_sub hl [1, 0, 2, 3] rfl))
          · have c_7 := mt (cl_m1 hp).mpr c_7
            refine lv_iconst (v := nI 1) hx hb d_M_count_49 (by decide) ?_
            refine lv_goto (tgt := 54) hx hb d_M_count_50 (by decide) ?_
            refine lv_iadd hx hb d_M_count_54 ?_
            refine lv_topi (fun v_9 ev_9 => ?_)
            obtain rfl : v_9 = nI (cw pt qt pn wh i + 1) := ev_9.trans (nI_add _ _)
            refine lv_istore_n (lv' := [(2, .int (nI (cw pt qt pn wh i + 1))), (3, .int (nI i)), (0, .ref h0), (1, .int wh)]) hx hb d_M_count_55 rfl hl (by decide) rfl (fun ls hl => ?_)
            refine lv_iinc (v := nI (i + 1)) (lv' := [(3, .int (nI (i + 1))), (2, .int (nI (cw pt qt pn wh i + 1))), (0, .ref h0), (1, .int wh)]) hx hb d_M_count_56 hl (k := 1) rfl (nI_add _ 1) (by decide) rfl (fun ls hl => ?_)
            refine lv_goto (tgt := 9) hx hb d_M_count_59 (by decide) ?_
            have hs9 : cw pt qt pn wh (i + 1) = cw pt qt pn wh i + 1 := by first | exact cw_qy ‹_› ‹_› | exact cw_sy ‹_› ‹_›
            exact ih (i + 1) (by omega) (by omega) (by omega) ls (by rw [hs9]; exact (lv_sub hl [1, 0, 2, 3] rfl))
        · refine lv_aload_n hx hb d_M_count_23 rfl (lv_at hl 2 rfl) ?_
          refine va_get (D := (dC, dI)) (ci := 1) (v := .ref a3) (C := R_M) (T := F_M) (N := 8) hx hb htB in_M hown hK hP 0 rfl rfl 3 (by decide) (htB _ hfl_M_16) (fun _ h9 => h9) rfl d_M_count_24 ?_
          refine lv_iload_n hx hb d_M_count_27 rfl (lv_at hl 1 rfl) ?_
          refine va_zald hx hb hK hP 3 1 rfl rfl (vp_in_nI (n := i) (by omega) (by decide)) d_M_count_28 ?_
          refine lv_topi (fun v_10 ev_10 => ?_)
          obtain rfl : v_10 = qt i := ev_10.trans (by rw [nI_clamp (n := i) (by omega)])
          refine lv_if_eq (tgt := 36) hx hb d_M_count_29 (by decide) (fun c_11 => ?_) (fun c_11 => ?_)
          · refine lv_iconst (v := nI 0) hx hb d_M_count_36 (by decide) ?_
            refine lv_goto (tgt := 54) hx hb d_M_count_37 (by decide) ?_
            refine lv_iadd hx hb d_M_count_54 ?_
            refine lv_topi (fun v_12 ev_12 => ?_)
            obtain rfl : v_12 = nI (cw pt qt pn wh i + 0) := ev_12.trans (nI_add _ _)
            refine lv_istore_n (lv' := [(2, .int (nI (cw pt qt pn wh i + 0))), (3, .int (nI i)), (0, .ref h0), (1, .int wh)]) hx hb d_M_count_55 rfl hl (by decide) rfl (fun ls hl => ?_)
            refine lv_iinc (v := nI (i + 1)) (lv' := [(3, .int (nI (i + 1))), (2, .int (nI (cw pt qt pn wh i + 0))), (0, .ref h0), (1, .int wh)]) hx hb d_M_count_56 hl (k := 1) rfl (nI_add _ 1) (by decide) rfl (fun ls hl => ?_)
            refine lv_goto (tgt := 9) hx hb d_M_count_59 (by decide) ?_
            have hs9 : cw pt qt pn wh (i + 1) = cw pt qt pn wh i + 0 := by first | exact cw_qn ‹_› ‹_› | exact cw_sn ‹_› ‹_›
            exact ih (i + 1) (by omega) (by omega) (by omega) ls (by rw [hs9]; exact (lv_sub hl [1, 0, 2, 3] rfl))
          · refine lv_iconst (v := nI 1) hx hb d_M_count_32 (by decide) ?_
            refine lv_goto (tgt := 54) hx hb d_M_count_33 (by decide) ?_
            refine lv_iadd hx hb d_M_count_54 ?_
            refine lv_topi (fun v_13 ev_13 => ?_)
            obtain rfl : v_13 = nI (cw pt qt pn wh i + 1) := ev_13.trans (nI_add _ _)
            refine lv_istore_n (lv' := [(2, .int (nI (cw pt qt pn wh i + 1))), (3, .int (nI i)), (0, .ref h0), (1, .int wh)]) hx hb d_M_count_55 rfl hl (by decide) rfl (fun ls hl => ?_)
            refine lv_iinc (v := nI (i + 1)) (lv' := [(3, .int (nI (i + 1))), (2, .int (nI (cw pt qt pn wh i + 1))), (0, .ref h0), (1, .int wh)]) hx hb d_M_count_56 hl (k := 1) rfl (nI_add _ 1) (by decide) rfl (fun ls hl => ?_)
            refine lv_goto (tgt := 9) hx hb d_M_count_59 (by decide) ?_
            have hs9 : cw pt qt pn wh (i + 1) = cw pt qt pn wh i + 1 := by first | exact cw_qy ‹_› ‹_› | exact cw_sy ‹_› ‹_›
            exact ih (i + 1) (by omega) (by omega) (by omega) ls (by rw [hs9]; exact (lv_sub hl [1, 0, 2, 3] rfl))
  exact loop 1001 0 (by omega) (by omega) (by omega) ls (by rw [cw_0]; exact (lv_sub hl [1, 0, 2, 3] rfl))

set_option maxHeartbeats 4000000 in
set_option maxRecDepth 100000 in
theorem c_M_cut (l : Launch) (dC : Nat → ClassId) (dI : Nat → Nat → Nat) (h0 a1 a2 a3 a4 a5 : Nat) (cI cZ : ClassId) (cd : Int32) (tx pt qt ar nr : Nat → Int32) (tn pn : Nat) (sz : Nat) (hp : pn ≤ 200) (ht : tn ≤ 400) (en lg : Bool) : Met l y_M_cut (.code y_M_cut b_M_cut 5 (some .int) :: wB) (Rm 4 101) (va_Pc [.ref h0, .int (bI en), .int (bI lg)] (fun U => U.heap.size = sz ∧ va_P (dC, dI) classes (wM h0 a1 a2 a3 a4 a5 cI cZ cd tx pt qt ar nr tn pn) U.heap ∧ va_K (dC, dI) classes (tyIZ cI cZ) U ∧ va_D (fun _ => True) (wM h0 a1 a2 a3 a4 a5 cI cZ cd tx pt qt ar nr tn pn))) (va_Qi (fun (r : Int32) (u : (Nat → Int32) × (Nat → Int32)) => r = if en = true then oI (fnd (fun z => mM tx pt qt pn (tn - z) tn tn) lg (tn + 1)) else oI (fnd (fun z => mM tx pt qt pn 0 tn z) lg (tn + 1))) (fun (u : (Nat → Int32) × (Nat → Int32)) (t : State) => va_P (dC, dI) classes (wM h0 a1 a2 a3 a4 a5 cI cZ ((nI 0)) tx pt qt u.1 u.2 tn pn) t.heap ∧ va_K (dC, dI) classes (tyIZ cI cZ) t ∧ va_D (va_A (wM h0 a1 a2 a3 a4 a5 cI cZ cd tx pt qt ar nr tn pn) sz) (wM h0 a1 a2 a3 a4 a5 cI cZ ((nI 0)) tx pt qt u.1 u.2 tn pn)) (va_A (wM h0 a1 a2 a3 a4 a5 cI cZ cd tx pt qt ar nr tn pn) sz)) 0 0 (va_A (wM h0 a1 a2 a3 a4 a5 cI cZ cd tx pt qt ar nr tn pn) sz) := by
  refine Met.ofW (cc := b_M_cut) (maxL := 5) (ret := (some .int)) (by decide) rfl ?_
  intro p e s mm args below meth c s₁ B hml hv
  obtain ⟨rfl, hsz, hP, hK, hD0⟩ := hv
  have hx := B.exec
  have hb := B.bytes
  have hr := B.returns
  have hts := atoms_spec (ws := (.code y_M_cut b_M_cut 5 (some .int) :: wB)) B.pre
  have htB : ∀ w ∈ wB, w.before _ s = true := fun w h => hts w (List.mem_cons_of_mem _ h)
  have hown : s.vm.findClass R_M = some mm.cls := findClass_of_methodNamed B.named
  have hlocks := B.notSynchronized
  subst hsz
  have hD := hD0.self (sz := s.heap.size)
  generalize hAe : va_A (wM h0 a1 a2 a3 a4 a5 cI cZ cd tx pt qt ar nr tn pn) s.heap.size = A at hD ⊢
  have hA : ∀ q : Nat, s.heap.size ≤ q → A q := fun q h => by rw [← hAe]; exact Or.inr h
  have hS : va_S A s.heap s.heap [] := va_S.rf
  have hP : va_P (dC, dI) classes (wM h0 a1 a2 a3 a4 a5 cI cZ cd tx pt qt ar nr tn pn) s.heap := hP
  have hl := lv_entry ([.ref h0, .int (bI en), .int (bI lg)]) (n := 5) (Nat.le_of_ble_eq_true rfl)
  rw [lg_entry_eq]
  generalize (lg_sl ([.ref h0, .int (bI en), .int (bI lg)]) ++ List.replicate (5 - (lg_sl ([.ref h0, .int (bI en), .int (bI lg)])).length) Slot.unset).toArray = ls at hl ⊢
  have hl : lv_has ls 5 [(0, .ref h0), (1, .int (bI en)), (2, .int (bI lg))] := hl
  refine lv_aload_n hx hb d_M_cut_0 rfl (lv_at hl 0 rfl) ?_
  refine lv_iconst (v := nI 0) hx hb d_M_cut_1 (by decide) ?_
  refine va_put (D := (dC, dI)) (ci := 1) (v := .int (nI 0)) (ty := .int) (C := R_M) (T := F_M) (N := 8) hx hb htB in_M t_M t_M_ok n_M hown hK hP hD hS 0 rfl rfl 0 (by decide) (htB _ hfl_M_26) (fun _ h9 => h9) rfl (by decide +kernel) rfl rfl (Nat.le_of_ble_eq_true rfl) d_M_cut_2 (fun H locs hP hD hS => ?_)
  have hP : va_P (dC, dI) classes (wM h0 a1 a2 a3 a4 a5 cI cZ (nI 0) tx pt qt ar nr tn pn) H := hP
  have hD : va_D A (wM h0 a1 a2 a3 a4 a5 cI cZ (nI 0) tx pt qt ar nr tn pn) := hD
  refine lv_iconst (v := -1) hx hb d_M_cut_5 (by decide) ?_
  refine lv_istore_n (lv' := [(3, .int (-1)), (0, .ref h0), (1, .int (bI en)), (2, .int (bI lg))]) hx hb d_M_cut_6 rfl hl (by decide) rfl (fun ls hl => ?_)
  refine lv_iload_n hx hb d_M_cut_7 rfl (lv_at hl 2 rfl) ?_
  refine lv_if_ne (tgt := 66) hx hb d_M_cut_8 (by decide) (fun c_1 => ?_) (fun c_1 => ?_)
  · have c_1 := bI_nz.mp c_1
    refine lv_aload_n hx hb d_M_cut_66 rfl (lv_at hl 1 rfl) ?_
    refine va_get (D := (dC, dI)) (ci := 1) (v := .int (nI tn)) (C := R_M) (T := F_M) (N := 8) hx hb htB in_M hown hK hP 0 rfl rfl 4 (by decide) (htB _ hfl_M_30) (fun _ h9 => h9) rfl d_M_cut_67 ?_
    refine lv_istore (lv' := [(4, .int (nI tn)), (3, .int (-1)), (0, .ref h0), (1, .int (bI en)), (2, .int (bI lg))]) hx hb d_M_cut_70 hl (by decide) rfl (fun ls hl => ?_)
    have loop : ∀ (d : Nat) (av nv : Nat → Int32) (H : Heap) (locs : List Loc), d ≤ tn + 1 → va_P (dC, dI) classes (wM h0 a1 a2 a3 a4 a5 cI cZ (nI 0) tx pt qt av nv tn pn) H → va_D A (wM h0 a1 a2 a3 a4 a5 cI cZ (nI 0) tx pt qt av nv tn pn) → va_S A s.heap H locs → ∀ ls : Array Slot, lv_has ls 5 [(4, .int (pI d)), (3, .int (oI (fnd (fun z => mM tx pt qt pn (tn - z) tn tn) lg (tn + 1 - d)))), (0, .ref h0), (1, .int (bI en)), (2, .int (bI lg))] → W p l e (Rm 4 101) s mm [.ref h0, .int (bI en), .int (bI lg)].toArray below meth c H locs 0 0 (MQ below (va_Qi (fun (r : Int32) (u : (Nat → Int32) × (Nat → Int32)) => r = if en = true then oI (fnd (fun z => mM tx pt qt pn (tn - z) tn tn) lg (tn + 1)) else oI (fnd (fun z => mM tx pt qt pn 0 tn z) lg (tn + 1))) (fun (u : (Nat → Int32) × (Nat → Int32)) (t : State) => va_P (dC, dI) classes (wM h0 a1 a2 a3 a4 a5 cI cZ ((nI 0)) tx pt qt u.1 u.2 tn pn) t.heap ∧ va_K (dC, dI) classes (tyIZ cI cZ) t ∧ va_D A (wM h0 a1 a2 a3 a4 a5 cI cZ ((nI 0)) tx pt qt u.1 u.2 tn pn)) A) [.ref h0, .int (bI en), .int (bI lg)].toArray s 0 0 A) (F0 mm 72 ls []) := by
      intro d
      induction d with
      | zero =>
        intro av nv H locs hd hP hD hS ls hl
        have hl : lv_has ls 5 [(4, .int (-1)), (3, .int (oI (fnd (fun z => mM tx pt qt pn (tn - z) tn tn) lg (tn + 1)))), (0, .ref h0), (1, .int (bI en)), (2, .int (bI lg))] := hl
        refine lv_iload hx hb d_M_cut_72 (lv_at hl 0 rfl) ?_
        refine lv_if_lt (tgt := 129) hx hb d_M_cut_74 (by decide) (fun c_1 => ?_) (fun c_1 => ?_)
        · clear c_1
          refine lv_iload_n hx hb d_M_cut_129 rfl (lv_at hl 1 rfl) ?_
          exact W.iret (v := oI (fnd (fun z => mM tx pt qt pn (tn - z) tn tn) lg (tn + 1))) hx hb hr (fun t ht hW => ⟨⟨_, (av, nv), rfl, by rw [if_pos ‹_›], by rw [ht]; exact hP, va_K.moved hW.alike hK, hD⟩, hS.F ht⟩) hS.2.2 d_M_cut_130
        · exact absurd c_1 (by decide)
      | succ d ih =>
        intro av nv H locs hd hP hD hS ls hl
        have hl : lv_has ls 5 [(4, .int (nI d)), (3, .int (oI (fnd (fun z => mM tx pt qt pn (tn - z) tn tn) lg (tn - d)))), (0, .ref h0), (1, .int (bI en)), (2, .int (bI lg))] := by rw [show tn + 1 - (d + 1) = tn - d by omega] at hl; exact hl
        refine lv_iload hx hb d_M_cut_72 (lv_at hl 0 rfl) ?_
        refine lv_if_lt (tgt := 129) hx hb d_M_cut_74 (by decide) (fun c_1 => ?_) (fun c_1 => ?_)
        · exact absurd c_1 (nI_pos (by omega))
        · clear c_1
          refine lv_iload_n hx hb d_M_cut_77 rfl (lv_at hl 1 rfl) ?_
          refine lv_iconst (v := -1) hx hb d_M_cut_78 (by decide) ?_
          refine lv_icmp_eq (tgt := 89) hx hb d_M_cut_79 (by decide) (fun c_2 => ?_) (fun c_2 => ?_)
          · have c_2 := (fnd_none (by omega)).mp c_2
            refine lv_aload_n hx hb d_M_cut_89 rfl (lv_at hl 2 rfl) ?_
            refine lv_iload hx hb d_M_cut_90 (lv_at hl 0 rfl) ?_
            refine lv_aload_n hx hb d_M_cut_92 rfl (lv_at hl 2 rfl) ?_
            refine va_get (D := (dC, dI)) (ci := 1) (v := .int (nI tn)) (C := R_M) (T := F_M) (N := 8) hx hb htB in_M hown hK hP 0 rfl rfl 4 (by decide) (htB _ hfl_M_30) (fun _ h9 => h9) rfl d_M_cut_93 ?_
            refine r_M_go hp (by omega) ht hx hb hml hown htB hK hP hD hS hA hl.1 (Nat.le_of_ble_eq_true rfl) ⟨Nat.le_of_ble_eq_true rfl, Nat.le_of_ble_eq_true rfl⟩ ⟨Nat.zero_le _, Nat.zero_le _⟩ d_M_cut_96 (fun u2 H locs hu2 hP hD hS => ?_)
            refine lv_aload_n hx hb d_M_cut_99 rfl (lv_at hl 2 rfl) ?_
            refine va_get (D := (dC, dI)) (ci := 1) (v := .ref a4) (C := R_M) (T := F_M) (N := 8) hx hb htB in_M hown hK hP 0 rfl rfl 6 (by decide) (htB _ hfl_M_20) (fun _ h9 => h9) rfl d_M_cut_100 ?_
            refine lv_aload_n hx hb d_M_cut_103 rfl (lv_at hl 2 rfl) ?_
            refine va_get (D := (dC, dI)) (ci := 1) (v := .int (nI tn)) (C := R_M) (T := F_M) (N := 8) hx hb htB in_M hown hK hP 0 rfl rfl 4 (by decide) (htB _ hfl_M_30) (fun _ h9 => h9) rfl d_M_cut_104 ?_
            refine va_zald hx hb hK hP 4 1 rfl rfl (vp_in_nI (n := tn) (by omega) (by decide)) d_M_cut_107 ?_
            refine lv_topi (fun v_3 ev_3 => ?_)
            obtain rfl : v_3 = bI (mM tx pt qt pn d tn tn) := (show v_3 = u2.1 tn from ev_3.trans (by rw [nI_clamp (n := tn) (by omega)])).trans (hu2 tn ht)
            refine lv_if_eq (tgt := 121) hx hb d_M_cut_108 (by decide) (fun c_4 => ?_) (fun c_4 => ?_)
            · have c_4 := bI_z.mp c_4
              refine lv_iload_n hx hb d_M_cut_121 rfl (lv_at hl 1 rfl) ?_
              refine lv_istore_n (lv' := [(3, .int (oI (fnd (fun z => mM tx pt qt pn (tn - z) tn tn) lg (tn - d)))), (4, .int (nI d)), (0, .ref h0), (1, .int (bI en)), (2, .int (bI lg))]) hx hb d_M_cut_122 rfl hl (by decide) rfl (fun ls hl => ?_)
              refine lv_iinc (v := pI d) (lv' := [(4, .int (pI d)), (3, .int (oI (fnd (fun z => mM tx pt qt pn (tn - z) tn tn) lg (tn - d)))), (0, .ref h0), (1, .int (bI en)), (2, .int (bI lg))]) hx hb d_M_cut_123 hl (k := 1) rfl (pI_dec d) (by decide) rfl (fun ls hl => ?_)
              refine lv_goto (tgt := 72) hx hb d_M_cut_126 (by decide) ?_
              have hf1 : fnd (fun z => mM tx pt qt pn (tn - z) tn tn) lg (tn - d + 1) = fnd (fun z => mM tx pt qt pn (tn - z) tn tn) lg (tn - d) := (by first | exact fnd_m2 ‹_› ‹_› | exact fnd_m1 (f := fun z => mM tx pt qt pn (tn - z) tn tn) (by show mM tx pt qt pn (tn - (tn - d)) tn tn = false; rw [show tn - (tn - d) = d by omega]; assumption))
              exact ih _ _ _ _ (by omega) hP hD hS ls (by rw [show tn + 1 - d = tn - d + 1 by omega, hf1]; exact (lv_sub hl [0, 1, 2, 3, 4] rfl))
            · have c_4 := bI_nz.mp c_4
              refine lv_aload_n hx hb d_M_cut_111 rfl (lv_at hl 2 rfl) ?_
              refine va_get (D := (dC, dI)) (ci := 1) (v := .int (nI tn)) (C := R_M) (T := F_M) (N := 8) hx hb htB in_M hown hK hP 0 rfl rfl 4 (by decide) (htB _ hfl_M_30) (fun _ h9 => h9) rfl d_M_cut_112 ?_
              refine lv_iload hx hb d_M_cut_115 (lv_at hl 0 rfl) ?_
              refine lv_isub hx hb d_M_cut_117 ?_
              refine lv_topi (fun v_5 ev_5 => ?_)
              obtain rfl : v_5 = nI (tn - d) := ev_5.trans (pk_sub (by omega))
              refine lv_goto (tgt := 122) hx hb d_M_cut_118 (by decide) ?_
              refine lv_istore_n (lv' := [(3, .int (nI (tn - d))), (4, .int (nI d)), (0, .ref h0), (1, .int (bI en)), (2, .int (bI lg))]) hx hb d_M_cut_122 rfl hl (by decide) rfl (fun ls hl => ?_)
              refine lv_iinc (v := pI d) (lv' := [(4, .int (pI d)), (3, .int (nI (tn - d))), (0, .ref h0), (1, .int (bI en)), (2, .int (bI lg))]) hx hb d_M_cut_123 hl (k := 1) rfl (pI_dec d) (by decide) rfl (fun ls hl => ?_)
              refine lv_goto (tgt := 72) hx hb d_M_cut_126 (by decide) ?_
              have hf1 : fnd (fun z => mM tx pt qt pn (tn - z) tn tn) lg (tn - d + 1) = some (tn - d) := fnd_hit (f := fun z => mM tx pt qt pn (tn - z) tn tn) (by show mM tx pt qt pn (tn - (tn - d)) tn tn = true; rw [show tn - (tn - d) = d by omega]; assumption) (by first | exact Or.inl ‹_› | exact Or.inr ‹_›)
              exact ih _ _ _ _ (by omega) hP hD hS ls (by rw [show tn + 1 - d = tn - d + 1 by omega, hf1]; exact (lv_sub hl [0, 1, 2, 3, 4] rfl))
          · have c_2 := mt (fnd_none (by omega)).mpr c_2
            refine lv_iload_n hx hb d_M_cut_82 rfl (lv_at hl 4 rfl) ?_
            refine lv_if_ne (tgt := 89) hx hb d_M_cut_83 (by decide) (fun c_6 => ?_) (fun c_6 => ?_)
            · have c_6 := bI_nz.mp c_6
              refine lv_aload_n hx hb d_M_cut_89 rfl (lv_at hl 2 rfl) ?_
              refine lv_iload hx hb d_M_cut_90 (lv_at hl 0 rfl) ?_
              refine lv_aload_n hx hb d_M_cut_92 rfl (lv_at hl 2 rfl) ?_
              refine va_get (D := (dC, dI)) (ci := 1) (v := .int (nI tn)) (C := R_M) (T := F_M) (N := 8) hx hb htB in_M hown hK hP 0 rfl rfl 4 (by decide) (htB _ hfl_M_30) (fun _ h9 => h9) rfl d_M_cut_93 ?_
              refine r_M_go hp (by omega) ht hx hb hml hown htB hK hP hD hS hA hl.1 (Nat.le_of_ble_eq_true rfl) ⟨Nat.le_of_ble_eq_true rfl, Nat.le_of_ble_eq_true rfl⟩ ⟨Nat.zero_le _, Nat.zero_le _⟩ d_M_cut_96 (fun u2 H locs hu2 hP hD hS => ?_)
              refine lv_aload_n hx hb d_M_cut_99 rfl (lv_at hl 2 rfl) ?_
              refine va_get (D := (dC, dI)) (ci := 1) (v := .ref a4) (C := R_M) (T := F_M) (N := 8) hx hb htB in_M hown hK hP 0 rfl rfl 6 (by decide) (htB _ hfl_M_20) (fun _ h9 => h9) rfl d_M_cut_100 ?_
              refine lv_aload_n hx hb d_M_cut_103 rfl (lv_at hl 2 rfl) ?_
              refine va_get (D := (dC, dI)) (ci := 1) (v := .int (nI tn)) (C := R_M) (T := F_M) (N := 8) hx hb htB in_M hown hK hP 0 rfl rfl 4 (by decide) (htB _ hfl_M_30) (fun _ h9 => h9) rfl d_M_cut_104 ?_
              refine va_zald hx hb hK hP 4 1 rfl rfl (vp_in_nI (n := tn) (by omega) (by decide)) d_M_cut_107 ?_
              refine lv_topi (fun v_7 ev_7 => ?_)
              obtain rfl : v_7 = bI (mM tx pt qt pn d tn tn) := (show v_7 = u2.1 tn from ev_7.trans (by rw [nI_clamp (n := tn) (by omega)])).trans (hu2 tn ht)
              refine lv_if_eq (tgt := 121) hx hb d_M_cut_108 (by decide) (fun c_8 => ?_) (fun c_8 => ?_)
              · have c_8 := bI_z.mp c_8
                refine lv_iload_n hx hb d_M_cut_121 rfl (lv_at hl 1 rfl) ?_
                refine lv_istore_n (lv' := [(3, .int (oI (fnd (fun z => mM tx pt qt pn (tn - z) tn tn) lg (tn - d)))), (4, .int (nI d)), (0, .ref h0), (1, .int (bI en)), (2, .int (bI lg))]) hx hb d_M_cut_122 rfl hl (by decide) rfl (fun ls hl => ?_)
                refine lv_iinc (v := pI d) (lv' := [(4, .int (pI d)), (3, .int (oI (fnd (fun z => mM tx pt qt pn (tn - z) tn tn) lg (tn - d)))), (0, .ref h0), (1, .int (bI en)), (2, .int (bI lg))]) hx hb d_M_cut_123 hl (k := 1) rfl (pI_dec d) (by decide) rfl (fun ls hl => ?_)
                refine lv_goto (tgt := 72) hx hb d_M_cut_126 (by decide) ?_
                have hf1 : fnd (fun z => mM tx pt qt pn (tn - z) tn tn) lg (tn - d + 1) = fnd (fun z => mM tx pt qt pn (tn - z) tn tn) lg (tn - d) := (by first | exact fnd_m2 ‹_› ‹_› | exact fnd_m1 (f := fun z => mM tx pt qt pn (tn - z) tn tn) (by show mM tx pt qt pn (tn - (tn - d)) tn tn = false; rw [show tn - (tn - d) = d by omega]; assumption))
                exact ih _ _ _ _ (by omega) hP hD hS ls (by rw [show tn + 1 - d = tn - d + 1 by omega, hf1]; exact (lv_sub hl [0, 1, 2, 3, 4] rfl))
              · have c_8 := bI_nz.mp c_8
                refine lv_aload_n hx hb d_M_cut_111 rfl (lv_at hl 2 rfl) ?_
                refine va_get (D := (dC, dI)) (ci := 1) (v := .int (nI tn)) (C := R_M) (T := F_M) (N := 8) hx hb htB in_M hown hK hP 0 rfl rfl 4 (by decide) (htB _ hfl_M_30) (fun _ h9 => h9) rfl d_M_cut_112 ?_
                refine lv_iload hx hb d_M_cut_115 (lv_at hl 0 rfl) ?_
                refine lv_isub hx hb d_M_cut_117 ?_
                refine lv_topi (fun v_9 ev_9 => ?_)
                obtain rfl : v_9 = nI (tn - d) := ev_9.trans (pk_sub (by omega))
                refine lv_goto (tgt := 122) hx hb d_M_cut_118 (by decide) ?_
                refine lv_istore_n (lv' := [(3, .int (nI (tn - d))), (4, .int (nI d)), (0, .ref h0), (1, .int (bI en)), (2, .int (bI lg))]) hx hb d_M_cut_122 rfl hl (by decide) rfl (fun ls hl => ?_)
                refine lv_iinc (v := pI d) (lv' := [(4, .int (pI d)), (3, .int (nI (tn - d))), (0, .ref h0), (1, .int (bI en)), (2, .int (bI lg))]) hx hb d_M_cut_123 hl (k := 1) rfl (pI_dec d) (by decide) rfl (fun ls hl => ?_)
                refine lv_goto (tgt := 72) hx hb d_M_cut_126 (by decide) ?_
                have hf1 : fnd (fun z => mM tx pt qt pn (tn - z) tn tn) lg (tn - d + 1) = some (tn - d) := fnd_hit (f := fun z => mM tx pt qt pn (tn - z) tn tn) (by show mM tx pt qt pn (tn - (tn - d)) tn tn = true; rw [show tn - (tn - d) = d by omega]; assumption) (by first | exact Or.inl ‹_› | exact Or.inr ‹_›)
                exact ih _ _ _ _ (by omega) hP hD hS ls (by rw [show tn + 1 - d = tn - d + 1 by omega, hf1]; exact (lv_sub hl [0, 1, 2, 3, 4] rfl))
            · have c_6 := bI_z.mp c_6
              refine lv_goto (tgt := 123) hx hb d_M_cut_86 (by decide) ?_
              refine lv_iinc (v := pI d) (lv' := [(4, .int (pI d)), (3, .int (oI (fnd (fun z => mM tx pt qt pn (tn - z) tn tn) lg (tn - d)))), (0, .ref h0), (1, .int (bI en)), (2, .int (bI lg))]) hx hb d_M_cut_123 hl (k := 0) rfl (pI_dec d) (by decide) rfl (fun ls hl => ?_)
              refine lv_goto (tgt := 72) hx hb d_M_cut_126 (by decide) ?_
              have hf1 : fnd (fun z => mM tx pt qt pn (tn - z) tn tn) lg (tn - d + 1) = fnd (fun z => mM tx pt qt pn (tn - z) tn tn) lg (tn - d) := (by first | exact fnd_m2 ‹_› ‹_› | exact fnd_m1 (f := fun z => mM tx pt qt pn (tn - z) tn tn) (by show mM tx pt qt pn (tn - (tn - d)) tn tn = false; rw [show tn - (tn - d) = d by omega]; assumption))
              exact ih _ _ _ _ (by omega) hP hD hS ls (by rw [show tn + 1 - d = tn - d + 1 by omega, hf1]; exact (lv_sub hl [0, 1, 2, 3, 4] rfl))
    exact loop (tn + 1) _ _ _ _ (Nat.le_refl _) hP hD hS ls (by rw [Nat.sub_self]; exact (lv_sub hl [0, 1, 2, 3, 4] rfl))
  · have c_1 := bI_z.mp c_1
    refine lv_aload_n hx hb d_M_cut_11 rfl (lv_at hl 1 rfl) ?_
    refine lv_iconst (v := nI 0) hx hb d_M_cut_12 (by decide) ?_
    refine lv_aload_n hx hb d_M_cut_13 rfl (lv_at hl 1 rfl) ?_
    refine va_get (D := (dC, dI)) (ci := 1) (v := .int (nI tn)) (C := R_M) (T := F_M) (N := 8) hx hb htB in_M hown hK hP 0 rfl rfl 4 (by decide) (htB _ hfl_M_30) (fun _ h9 => h9) rfl d_M_cut_14 ?_
    refine r_M_go hp (Nat.zero_le _) ht hx hb hml hown htB hK hP hD hS hA hl.1 (Nat.le_of_ble_eq_true rfl) ⟨Nat.le_of_ble_eq_true rfl, Nat.le_of_ble_eq_true rfl⟩ ⟨Nat.zero_le _, Nat.zero_le _⟩ d_M_cut_17 (fun u1 H locs hu1 hP hD hS => ?_)
    refine lv_iconst (v := nI 0) hx hb d_M_cut_20 (by decide) ?_
    refine lv_istore (lv' := [(4, .int (nI 0)), (3, .int (-1)), (0, .ref h0), (1, .int (bI en)), (2, .int (bI lg))]) hx hb d_M_cut_21 hl (by decide) rfl (fun ls hl => ?_)
    have loop : ∀ (n i : Nat), i ≤ 1000 → 1000 < i + n → i ≤ tn + 1 → ∀ ls : Array Slot, lv_has ls 5 [(4, .int (nI i)), (3, .int (oI (fnd (fun z => mM tx pt qt pn 0 tn z) lg i))), (0, .ref h0), (1, .int (bI en)), (2, .int (bI lg))] → W p l e (Rm 4 101) s mm [.ref h0, .int (bI en), .int (bI lg)].toArray below meth c H locs 0 0 (MQ below (va_Qi (fun (r : Int32) (u : (Nat → Int32) × (Nat → Int32)) => r = if en = true then oI (fnd (fun z => mM tx pt qt pn (tn - z) tn tn) lg (tn + 1)) else oI (fnd (fun z => mM tx pt qt pn 0 tn z) lg (tn + 1))) (fun (u : (Nat → Int32) × (Nat → Int32)) (t : State) => va_P (dC, dI) classes (wM h0 a1 a2 a3 a4 a5 cI cZ ((nI 0)) tx pt qt u.1 u.2 tn pn) t.heap ∧ va_K (dC, dI) classes (tyIZ cI cZ) t ∧ va_D A (wM h0 a1 a2 a3 a4 a5 cI cZ ((nI 0)) tx pt qt u.1 u.2 tn pn)) A) [.ref h0, .int (bI en), .int (bI lg)].toArray s 0 0 A) (F0 mm 23 ls []) := by
      intro n
      induction n with
      | zero => intro i h1 h2; exact absurd h2 (by omega)
      | succ n ih =>
        intro i hi hn hit ls hl
        refine lv_iload hx hb d_M_cut_23 (lv_at hl 0 rfl) ?_
        refine lv_aload_n hx hb d_M_cut_25 rfl (lv_at hl 2 rfl) ?_
        refine va_get (D := (dC, dI)) (ci := 1) (v := .int (nI tn)) (C := R_M) (T := F_M) (N := 8) hx hb htB in_M hown hK hP 0 rfl rfl 4 (by decide) (htB _ hfl_M_30) (fun _ h9 => h9) rfl d_M_cut_26 ?_
        refine lv_icmp_gt (tgt := 64) hx hb d_M_cut_29 (by decide) (fun c_1 => ?_) (fun c_1 => ?_)
        · have c_1 := (nI_ltI (by omega) (by omega)).mp c_1
          refine lv_iload_n hx hb d_M_cut_64 rfl (lv_at hl 1 rfl) ?_
          exact W.iret (v := oI (fnd (fun z => mM tx pt qt pn 0 tn z) lg i)) hx hb hr (fun t ht hW => ⟨⟨_, u1, rfl, by rw [if_neg (by rw [‹en = false›]; decide), show i = tn + 1 by omega], by rw [ht]; exact hP, va_K.moved hW.alike hK, hD⟩, hS.F ht⟩) hS.2.2 d_M_cut_65
        · have c_1 := mt (nI_ltI (by omega) (by omega)).mpr c_1
          refine lv_aload_n hx hb d_M_cut_32 rfl (lv_at hl 2 rfl) ?_
          refine va_get (D := (dC, dI)) (ci := 1) (v := .ref a4) (C := R_M) (T := F_M) (N := 8) hx hb htB in_M hown hK hP 0 rfl rfl 6 (by decide) (htB _ hfl_M_20) (fun _ h9 => h9) rfl d_M_cut_33 ?_
          refine lv_iload hx hb d_M_cut_36 (lv_at hl 0 rfl) ?_
          refine va_zald hx hb hK hP 4 1 rfl rfl (vp_in_nI (n := i) (by omega) (by decide)) d_M_cut_38 ?_
          refine lv_topi (fun v_2 ev_2 => ?_)
          obtain rfl : v_2 = bI (mM tx pt qt pn 0 tn i) := (show v_2 = u1.1 i from ev_2.trans (by rw [nI_clamp (n := i) (by omega)])).trans (hu1 i (by omega))
          refine lv_if_eq (tgt := 56) hx hb d_M_cut_39 (by decide) (fun c_3 => ?_) (fun c_3 => ?_)
          · have c_3 := bI_z.mp c_3
            refine lv_iload_n hx hb d_M_cut_56 rfl (lv_at hl 1 rfl) ?_
            refine lv_istore_n (lv' := [(3, .int (oI (fnd (fun z => mM tx pt qt pn 0 tn z) lg i))), (4, .int (nI i)), (0, .ref h0), (1, .int (bI en)), (2, .int (bI lg))]) hx hb d_M_cut_57 rfl hl (by decide) rfl (fun ls hl => ?_)
            refine lv_iinc (v := nI (i + 1)) (lv' := [(4, .int (nI (i + 1))), (3, .int (oI (fnd (fun z => mM tx pt qt pn 0 tn z) lg i))), (0, .ref h0), (1, .int (bI en)), (2, .int (bI lg))]) hx hb d_M_cut_58 hl (k := 1) rfl (nI_add _ 1) (by decide) rfl (fun ls hl => ?_)
            refine lv_goto (tgt := 23) hx hb d_M_cut_61 (by decide) ?_
            have hf1 : fnd (fun z => mM tx pt qt pn 0 tn z) lg (i + 1) = fnd (fun z => mM tx pt qt pn 0 tn z) lg i := (by first | exact fnd_m1 (f := fun z => mM tx pt qt pn 0 tn z) ‹_› | exact fnd_m2 ‹_› ‹_›)
            exact ih (i + 1) (by omega) (by omega) (by omega) ls (by rw [hf1]; exact (lv_sub hl [0, 1, 2, 3, 4] rfl))
          · have c_3 := bI_nz.mp c_3
            refine lv_iload_n hx hb d_M_cut_42 rfl (lv_at hl 4 rfl) ?_
            refine lv_if_ne (tgt := 51) hx hb d_M_cut_43 (by decide) (fun c_4 => ?_) (fun c_4 => ?_)
            · have c_4 := bI_nz.mp c_4
              refine lv_iload hx hb d_M_cut_51 (lv_at hl 0 rfl) ?_
              refine lv_goto (tgt := 57) hx hb d_M_cut_53 (by decide) ?_
              refine lv_istore_n (lv' := [(3, .int (nI i)), (4, .int (nI i)), (0, .ref h0), (1, .int (bI en)), (2, .int (bI lg))]) hx hb d_M_cut_57 rfl hl (by decide) rfl (fun ls hl => ?_)
              refine lv_iinc (v := nI (i + 1)) (lv' := [(4, .int (nI (i + 1))), (3, .int (nI i)), (0, .ref h0), (1, .int (bI en)), (2, .int (bI lg))]) hx hb d_M_cut_58 hl (k := 1) rfl (nI_add _ 1) (by decide) rfl (fun ls hl => ?_)
              refine lv_goto (tgt := 23) hx hb d_M_cut_61 (by decide) ?_
              have hf1 : fnd (fun z => mM tx pt qt pn 0 tn z) lg (i + 1) = some i := fnd_hit (f := fun z => mM tx pt qt pn 0 tn z) ‹_› (by first | exact Or.inl ‹_› | exact Or.inr ‹_›)
              exact ih (i + 1) (by omega) (by omega) (by omega) ls (by rw [hf1]; exact (lv_sub hl [0, 1, 2, 3, 4] rfl))
            · have c_4 := bI_z.mp c_4
              refine lv_iload_n hx hb d_M_cut_46 rfl (lv_at hl 1 rfl) ?_
              refine lv_iconst (v := -1) hx hb d_M_cut_47 (by decide) ?_
              refine lv_icmp_ne (tgt := 56) hx hb d_M_cut_48 (by decide) (fun c_5 => ?_) (fun c_5 => ?_)
              · have c_5 := mt (fnd_none (by omega)).mpr c_5
                refine lv_iload_n hx hb d_M_cut_56 rfl (lv_at hl 1 rfl) ?_
                refine lv_istore_n (lv' := [(3, .int (oI (fnd (fun z => mM tx pt qt pn 0 tn z) lg i))), (4, .int (nI i)), (0, .ref h0), (1, .int (bI en)), (2, .int (bI lg))]) hx hb d_M_cut_57 rfl hl (by decide) rfl (fun ls hl => ?_)
                refine lv_iinc (v := nI (i + 1)) (lv' := [(4, .int (nI (i + 1))), (3, .int (oI (fnd (fun z => mM tx pt qt pn 0 tn z) lg i))), (0, .ref h0), (1, .int (bI en)), (2, .int (bI lg))]) hx hb d_M_cut_58 hl (k := 1) rfl (nI_add _ 1) (by decide) rfl (fun ls hl => ?_)
                refine lv_goto (tgt := 23) hx hb d_M_cut_61 (by decide) ?_
                have hf1 : fnd (fun z => mM tx pt qt pn 0 tn z) lg (i + 1) = fnd (fun z => mM tx pt qt pn 0 tn z) lg i := (by first | exact fnd_m1 (f := fun z => mM tx pt qt pn 0 tn z) ‹_› | exact fnd_m2 ‹_› ‹_›)
                exact ih (i + 1) (by omega) (by omega) (by omega) ls (by rw [hf1]; exact (lv_sub hl [0, 1, 2, 3, 4] rfl))
              · have c_5 := (fnd_none (by omega)).mp c_5
                refine lv_iload hx hb d_M_cut_51 (lv_at hl 0 rfl) ?_
                refine lv_goto (tgt := 57) hx hb d_M_cut_53 (by decide) ?_
                refine lv_istore_n (lv' := [(3, .int (nI i)), (4, .int (nI i)), (0, .ref h0), (1, .int (bI en)), (2, .int (bI lg))]) hx hb d_M_cut_57 rfl hl (by decide) rfl (fun ls hl => ?_)
                refine lv_iinc (v := nI (i + 1)) (lv' := [(4, .int (nI (i + 1))), (3, .int (nI i)), (0, .ref h0), (1, .int (bI en)), (2, .int (bI lg))]) hx hb d_M_cut_58 hl (k := 1) rfl (nI_add _ 1) (by decide) rfl (fun ls hl => ?_)
                refine lv_goto (tgt := 23) hx hb d_M_cut_61 (by decide) ?_
                have hf1 : fnd (fun z => mM tx pt qt pn 0 tn z) lg (i + 1) = some i := fnd_hit (f := fun z => mM tx pt qt pn 0 tn z) ‹_› (by first | exact Or.inl ‹_› | exact Or.inr ‹_›)
                exact ih (i + 1) (by omega) (by omega) (by omega) ls (by rw [hf1]; exact (lv_sub hl [0, 1, 2, 3, 4] rfl))
    exact loop 1001 0 (by omega) (by omega) (by omega) ls (lv_sub hl [0, 1, 2, 3, 4] rfl)
end
section
/-! the constructors: by wip/whole/gen/gen23.py -/
set_option maxHeartbeats 4000000 in
set_option maxRecDepth 100000 in
theorem c_X_init (l : Launch) (dC : Nat → ClassId) (dI : Nat → Nat → Nat) (h0 sz : Nat) : Met l y_X_init (.code y_X_init b_X_init 1 none :: wB) ({ frames := 1, cells := 4, slots := 1201, locals := 12 }) (va_Pc [.ref h0] (fun U => U.heap.size = sz ∧ va_P (dC, dI) classes [(h0, .inr (0, [.null, .int (nI 0), .null, .null, .int (nI 0), .null]))] U.heap ∧ va_K (dC, dI) classes [] U ∧ va_D (fun _ => True) [(h0, .inr (0, [.null, .int (nI 0), .null, .null, .int (nI 0), .null]))])) (va_Qv (fun (_ : Unit) => True) (fun (_ : Unit) (t : State) => ∃ (a1 a2 a3 a4 : Nat) (cI cZ : ClassId), va_P (dC, dI) classes (wX h0 a1 a2 a3 a4 cI cZ (fun _ => 0) (fun _ => 0) (fun _ => 0) (fun _ => 0) 0 0) t.heap ∧ va_K (dC, dI) classes (tyIZ cI cZ) t ∧ va_D (va_A [(h0, .inr (0, [.null, .int (nI 0), .null, .null, .int (nI 0), .null]))] sz) (wX h0 a1 a2 a3 a4 cI cZ (fun _ => 0) (fun _ => 0) (fun _ => 0) (fun _ => 0) 0 0)) (va_A [(h0, .inr (0, [.null, .int (nI 0), .null, .null, .int (nI 0), .null]))] sz)) 4 1201 (va_A [(h0, .inr (0, [.null, .int (nI 0), .null, .null, .int (nI 0), .null]))] sz) := by
  refine Met.ofW (cc := b_X_init) (maxL := 1) (ret := none) (by decide) rfl ?_
  intro p e s mm args below meth c s₁ B hml hv
  obtain ⟨rfl, hsz, hP, hK, hD0⟩ := hv
  have hx := B.exec
  have hb := B.bytes
  have hr := B.returns
  have hts := atoms_spec (ws := (.code y_X_init b_X_init 1 none :: wB)) B.pre
  have htB : ∀ w ∈ wB, w.before _ s = true := fun w h => hts w (List.mem_cons_of_mem _ h)
  have hown : s.vm.findClass R_X = some mm.cls := findClass_of_methodNamed B.named
  have hlocks := B.notSynchronized
  have hin : meth.name = "<init>" := (name_of_methodNamed B.named B.method).1
  subst hsz
  have hD := hD0.self (sz := s.heap.size)
  generalize hAe : va_A [(h0, .inr (0, [.null, .int (nI 0), .null, .null, .int (nI 0), .null]))] s.heap.size = A at hD ⊢
  have hA : ∀ q : Nat, s.heap.size ≤ q → A q := fun q h => by rw [← hAe]; exact Or.inr h
  have hS : va_S A s.heap s.heap [] := va_S.rf
  have hl := lv_entry ([.ref h0]) (n := 1) (Nat.le_of_ble_eq_true rfl)
  rw [lg_entry_eq]
  generalize (lg_sl ([.ref h0]) ++ List.replicate (1 - (lg_sl ([.ref h0])).length) Slot.unset).toArray = ls at hl ⊢
  have hl : lv_has ls 1 [(0, .ref h0)] := hl
  refine lv_aload_n hx hb d_X_init_0 rfl (lv_at hl 0 rfl) ?_
  refine W.objInit hx hb hown (htB _ hml_X_1) (htB _ hinm_objectInit) (htB _ hco_objectInit) rfl (by rw [hml]; exact hl.1) rfl d_X_init_1 (Nat.le_of_ble_eq_true rfl) (Nat.le_of_ble_eq_true rfl) ?_
  refine W.eq (g2 := F0 mm 4 ls []) rfl ?_
  refine lv_aload_n hx hb d_X_init_4 rfl (lv_at hl 0 rfl) ?_
  refine lv_sipush (v := nI 400) hx hb d_X_init_5 (by decide) ?_
  refine va_newa (atype := .int) (ty := .int) (a0 := (400, .inl (fun _ => 0))) hx hb (htB _ har_int) rfl hK hP hD hS hA (fun _ => rfl) (by decide) (by decide) (by decide) (Nat.le_of_ble_eq_true rfl) (Nat.le_of_ble_eq_true rfl) d_X_init_8 (fun q1 c1 H hK hP hD hS => ?_)
  have hP : va_P (dC, dI) classes [(h0, .inr (0, [.null, .int (nI 0), .null, .null, .int (nI 0), .null])), (q1, .inl (c1, 400, .inl (fun _ => 0)))] H := hP
  have hD : va_D A [(h0, .inr (0, [.null, .int (nI 0), .null, .null, .int (nI 0), .null])), (q1, .inl (c1, 400, .inl (fun _ => 0)))] := hD
  have hK : va_K (dC, dI) classes [(c1, .int)] s := hK
  refine W.widen (k := 1) (n := 400) (Nat.le_of_ble_eq_true rfl) (Nat.le_of_ble_eq_true rfl) ?_
  refine va_putF (D := (dC, dI)) (ci := 0) (v := .ref q1) (ty := .array .int) (C := R_X) (T := F_X) (N := 6) hx hb htB in_X t_X t_X_ok n_X hown hK hP hD hS 0 rfl rfl 0 (by decide) (htB _ hfl_X_9) (fun _ h9 => h9) rfl hin rfl (by decide +kernel) rfl rfl (Nat.le_of_ble_eq_true rfl) d_X_init_10 (fun H locs hP hD hS => ?_)
  have hP : va_P (dC, dI) classes [(h0, .inr (0, [.ref q1, .int (nI 0), .null, .null, .int (nI 0), .null])), (q1, .inl (c1, 400, .inl (fun _ => 0)))] H := hP
  have hD : va_D A [(h0, .inr (0, [.ref q1, .int (nI 0), .null, .null, .int (nI 0), .null])), (q1, .inl (c1, 400, .inl (fun _ => 0)))] := hD
  refine lv_aload_n hx hb d_X_init_13 rfl (lv_at hl 0 rfl) ?_
  refine lv_iconst (v := nI 0) hx hb d_X_init_14 (by decide) ?_
  refine va_put (D := (dC, dI)) (ci := 0) (v := .int (nI 0)) (ty := .int) (C := R_X) (T := F_X) (N := 6) hx hb htB in_X t_X t_X_ok n_X hown hK hP hD hS 0 rfl rfl 1 (by decide) (htB _ hfl_X_13) (fun _ h9 => h9) rfl (by decide +kernel) rfl rfl (Nat.le_of_ble_eq_true rfl) d_X_init_15 (fun H locs hP hD hS => ?_)
  have hP : va_P (dC, dI) classes [(h0, .inr (0, [.ref q1, .int (nI 0), .null, .null, .int (nI 0), .null])), (q1, .inl (c1, 400, .inl (fun _ => 0)))] H := hP
  have hD : va_D A [(h0, .inr (0, [.ref q1, .int (nI 0), .null, .null, .int (nI 0), .null])), (q1, .inl (c1, 400, .inl (fun _ => 0)))] := hD
  refine lv_aload_n hx hb d_X_init_18 rfl (lv_at hl 0 rfl) ?_
  refine lv_sipush (v := nI 200) hx hb d_X_init_19 (by decide) ?_
  refine va_newa (atype := .int) (ty := .int) (a0 := (200, .inl (fun _ => 0))) hx hb (htB _ har_int) rfl hK hP hD hS hA (fun _ => rfl) (by decide) (by decide) (by decide) (Nat.le_of_ble_eq_true rfl) (Nat.le_of_ble_eq_true rfl) d_X_init_22 (fun q2 c2 H hK hP hD hS => ?_)
  have hP : va_P (dC, dI) classes [(h0, .inr (0, [.ref q1, .int (nI 0), .null, .null, .int (nI 0), .null])), (q1, .inl (c1, 400, .inl (fun _ => 0))), (q2, .inl (c2, 200, .inl (fun _ => 0)))] H := hP
  have hD : va_D A [(h0, .inr (0, [.ref q1, .int (nI 0), .null, .null, .int (nI 0), .null])), (q1, .inl (c1, 400, .inl (fun _ => 0))), (q2, .inl (c2, 200, .inl (fun _ => 0)))] := hD
  have hK : va_K (dC, dI) classes [(c1, .int), (c2, .int)] s := hK
  refine W.widen (k := 2) (n := 600) (Nat.le_of_ble_eq_true rfl) (Nat.le_of_ble_eq_true rfl) ?_
  refine va_putF (D := (dC, dI)) (ci := 0) (v := .ref q2) (ty := .array .int) (C := R_X) (T := F_X) (N := 6) hx hb htB in_X t_X t_X_ok n_X hown hK hP hD hS 0 rfl rfl 2 (by decide) (htB _ hfl_X_17) (fun _ h9 => h9) rfl hin rfl (by decide +kernel) rfl rfl (Nat.le_of_ble_eq_true rfl) d_X_init_24 (fun H locs hP hD hS => ?_)
  have hP : va_P (dC, dI) classes [(h0, .inr (0, [.ref q1, .int (nI 0), .ref q2, .null, .int (nI 0), .null])), (q1, .inl (c1, 400, .inl (fun _ => 0))), (q2, .inl (c2, 200, .inl (fun _ => 0)))] H := hP
  have hD : va_D A [(h0, .inr (0, [.ref q1, .int (nI 0), .ref q2, .null, .int (nI 0), .null])), (q1, .inl (c1, 400, .inl (fun _ => 0))), (q2, .inl (c2, 200, .inl (fun _ => 0)))] := hD
  refine lv_aload_n hx hb d_X_init_27 rfl (lv_at hl 0 rfl) ?_
  refine lv_sipush (v := nI 200) hx hb d_X_init_28 (by decide) ?_
  refine va_newa (atype := .boolean) (ty := .boolean) (a0 := (200, .inl (fun _ => 0))) hx hb (htB _ har_boolean) rfl hK hP hD hS hA (fun _ => rfl) (by decide) (by decide) (by decide) (Nat.le_of_ble_eq_true rfl) (Nat.le_of_ble_eq_true rfl) d_X_init_31 (fun q3 c3 H hK hP hD hS => ?_)
  have hP : va_P (dC, dI) classes [(h0, .inr (0, [.ref q1, .int (nI 0), .ref q2, .null, .int (nI 0), .null])), (q1, .inl (c1, 400, .inl (fun _ => 0))), (q2, .inl (c2, 200, .inl (fun _ => 0))), (q3, .inl (c3, 200, .inl (fun _ => 0)))] H := hP
  have hD : va_D A [(h0, .inr (0, [.ref q1, .int (nI 0), .ref q2, .null, .int (nI 0), .null])), (q1, .inl (c1, 400, .inl (fun _ => 0))), (q2, .inl (c2, 200, .inl (fun _ => 0))), (q3, .inl (c3, 200, .inl (fun _ => 0)))] := hD
  have hK : va_K (dC, dI) classes [(c1, .int), (c2, .int), (c3, .boolean)] s := hK
  refine W.widen (k := 3) (n := 800) (Nat.le_of_ble_eq_true rfl) (Nat.le_of_ble_eq_true rfl) ?_
  refine va_putF (D := (dC, dI)) (ci := 0) (v := .ref q3) (ty := .array .boolean) (C := R_X) (T := F_X) (N := 6) hx hb htB in_X t_X t_X_ok n_X hown hK hP hD hS 0 rfl rfl 3 (by decide) (htB _ hfl_X_20) (fun _ h9 => h9) rfl hin rfl (by decide +kernel) rfl rfl (Nat.le_of_ble_eq_true rfl) d_X_init_33 (fun H locs hP hD hS => ?_)
  have hP : va_P (dC, dI) classes [(h0, .inr (0, [.ref q1, .int (nI 0), .ref q2, .ref q3, .int (nI 0), .null])), (q1, .inl (c1, 400, .inl (fun _ => 0))), (q2, .inl (c2, 200, .inl (fun _ => 0))), (q3, .inl (c3, 200, .inl (fun _ => 0)))] H := hP
  have hD : va_D A [(h0, .inr (0, [.ref q1, .int (nI 0), .ref q2, .ref q3, .int (nI 0), .null])), (q1, .inl (c1, 400, .inl (fun _ => 0))), (q2, .inl (c2, 200, .inl (fun _ => 0))), (q3, .inl (c3, 200, .inl (fun _ => 0)))] := hD
  refine lv_aload_n hx hb d_X_init_36 rfl (lv_at hl 0 rfl) ?_
  refine lv_iconst (v := nI 0) hx hb d_X_init_37 (by decide) ?_
  refine va_put (D := (dC, dI)) (ci := 0) (v := .int (nI 0)) (ty := .int) (C := R_X) (T := F_X) (N := 6) hx hb htB in_X t_X t_X_ok n_X hown hK hP hD hS 0 rfl rfl 4 (by decide) (htB _ hfl_X_24) (fun _ h9 => h9) rfl (by decide +kernel) rfl rfl (Nat.le_of_ble_eq_true rfl) d_X_init_38 (fun H locs hP hD hS => ?_)
  have hP : va_P (dC, dI) classes [(h0, .inr (0, [.ref q1, .int (nI 0), .ref q2, .ref q3, .int (nI 0), .null])), (q1, .inl (c1, 400, .inl (fun _ => 0))), (q2, .inl (c2, 200, .inl (fun _ => 0))), (q3, .inl (c3, 200, .inl (fun _ => 0)))] H := hP
  have hD : va_D A [(h0, .inr (0, [.ref q1, .int (nI 0), .ref q2, .ref q3, .int (nI 0), .null])), (q1, .inl (c1, 400, .inl (fun _ => 0))), (q2, .inl (c2, 200, .inl (fun _ => 0))), (q3, .inl (c3, 200, .inl (fun _ => 0)))] := hD
  refine lv_aload_n hx hb d_X_init_41 rfl (lv_at hl 0 rfl) ?_
  refine lv_sipush (v := nI 401) hx hb d_X_init_42 (by decide) ?_
  refine va_newa (atype := .int) (ty := .int) (a0 := (401, .inl (fun _ => 0))) hx hb (htB _ har_int) rfl hK hP hD hS hA (fun _ => rfl) (by decide) (by decide) (by decide) (Nat.le_of_ble_eq_true rfl) (Nat.le_of_ble_eq_true rfl) d_X_init_45 (fun q4 c4 H hK hP hD hS => ?_)
  have hP : va_P (dC, dI) classes [(h0, .inr (0, [.ref q1, .int (nI 0), .ref q2, .ref q3, .int (nI 0), .null])), (q1, .inl (c1, 400, .inl (fun _ => 0))), (q2, .inl (c2, 200, .inl (fun _ => 0))), (q3, .inl (c3, 200, .inl (fun _ => 0))), (q4, .inl (c4, 401, .inl (fun _ => 0)))] H := hP
  have hD : va_D A [(h0, .inr (0, [.ref q1, .int (nI 0), .ref q2, .ref q3, .int (nI 0), .null])), (q1, .inl (c1, 400, .inl (fun _ => 0))), (q2, .inl (c2, 200, .inl (fun _ => 0))), (q3, .inl (c3, 200, .inl (fun _ => 0))), (q4, .inl (c4, 401, .inl (fun _ => 0)))] := hD
  have hK : va_K (dC, dI) classes [(c1, .int), (c2, .int), (c3, .boolean), (c4, .int)] s := hK
  refine W.widen (k := 4) (n := 1201) (Nat.le_of_ble_eq_true rfl) (Nat.le_of_ble_eq_true rfl) ?_
  refine va_putF (D := (dC, dI)) (ci := 0) (v := .ref q4) (ty := .array .int) (C := R_X) (T := F_X) (N := 6) hx hb htB in_X t_X t_X_ok n_X hown hK hP hD hS 0 rfl rfl 5 (by decide) (htB _ hfl_X_27) (fun _ h9 => h9) rfl hin rfl (by decide +kernel) rfl rfl (Nat.le_of_ble_eq_true rfl) d_X_init_47 (fun H locs hP hD hS => ?_)
  have hP : va_P (dC, dI) classes [(h0, .inr (0, [.ref q1, .int (nI 0), .ref q2, .ref q3, .int (nI 0), .ref q4])), (q1, .inl (c1, 400, .inl (fun _ => 0))), (q2, .inl (c2, 200, .inl (fun _ => 0))), (q3, .inl (c3, 200, .inl (fun _ => 0))), (q4, .inl (c4, 401, .inl (fun _ => 0)))] H := hP
  have hD : va_D A [(h0, .inr (0, [.ref q1, .int (nI 0), .ref q2, .ref q3, .int (nI 0), .ref q4])), (q1, .inl (c1, 400, .inl (fun _ => 0))), (q2, .inl (c2, 200, .inl (fun _ => 0))), (q3, .inl (c3, 200, .inl (fun _ => 0))), (q4, .inl (c4, 401, .inl (fun _ => 0)))] := hD
  obtain rfl : c1 = c2 := Option.some.inj ((hK.2 0 _ rfl).2.symm.trans (hK.2 1 _ rfl).2)
  obtain rfl : c1 = c4 := Option.some.inj ((hK.2 0 _ rfl).2.symm.trans (hK.2 3 _ rfl).2)
  have hK := hK.sub (tys' := tyIZ c1 c3) [0, 2] rfl
  have hP : va_P (dC, dI) classes (wX h0 q1 q2 q3 q4 c1 c3 (fun _ => 0) (fun _ => 0) (fun _ => 0) (fun _ => 0) 0 0) H := hP
  have hD : va_D A (wX h0 q1 q2 q3 q4 c1 c3 (fun _ => 0) (fun _ => 0) (fun _ => 0) (fun _ => 0) 0 0) := hD
  refine W.widen (k := 4) (n := 1201) (Nat.le_of_ble_eq_true rfl) (Nat.le_of_ble_eq_true rfl) ?_
  exact W.vret hx hb hr (fun t ht hW => ⟨⟨(), rfl, trivial, q1, q2, q3, q4, c1, c3, by rw [ht]; exact hP, va_K.moved hW.alike hK, hD⟩, hS.F ht⟩) hS.2.2 d_X_init_50

set_option maxHeartbeats 4000000 in
set_option maxRecDepth 100000 in
theorem c_M_init (l : Launch) (dC : Nat → ClassId) (dI : Nat → Nat → Nat) (h0 sz : Nat) : Met l y_M_init (.code y_M_init b_M_init 1 none :: wB) ({ frames := 1, cells := 5, slots := 1602, locals := 12 }) (va_Pc [.ref h0] (fun U => U.heap.size = sz ∧ va_P (dC, dI) classes [(h0, .inr (1, [.int (nI 0), .null, .null, .null, .int (nI 0), .int (nI 0), .null, .null]))] U.heap ∧ va_K (dC, dI) classes [] U ∧ va_D (fun _ => True) [(h0, .inr (1, [.int (nI 0), .null, .null, .null, .int (nI 0), .int (nI 0), .null, .null]))])) (va_Qv (fun (_ : Unit) => True) (fun (_ : Unit) (t : State) => ∃ (a1 a2 a3 a4 a5 : Nat) (cI cZ : ClassId), va_P (dC, dI) classes (wM h0 a1 a2 a3 a4 a5 cI cZ (nI 0) (fun _ => 0) (fun _ => 0) (fun _ => 0) (fun _ => 0) (fun _ => 0) 0 0) t.heap ∧ va_K (dC, dI) classes (tyIZ cI cZ) t ∧ va_D (va_A [(h0, .inr (1, [.int (nI 0), .null, .null, .null, .int (nI 0), .int (nI 0), .null, .null]))] sz) (wM h0 a1 a2 a3 a4 a5 cI cZ (nI 0) (fun _ => 0) (fun _ => 0) (fun _ => 0) (fun _ => 0) (fun _ => 0) 0 0)) (va_A [(h0, .inr (1, [.int (nI 0), .null, .null, .null, .int (nI 0), .int (nI 0), .null, .null]))] sz)) 5 1602 (va_A [(h0, .inr (1, [.int (nI 0), .null, .null, .null, .int (nI 0), .int (nI 0), .null, .null]))] sz) := by
  refine Met.ofW (cc := b_M_init) (maxL := 1) (ret := none) (by decide) rfl ?_
  intro p e s mm args below meth c s₁ B hml hv
  obtain ⟨rfl, hsz, hP, hK, hD0⟩ := hv
  have hx := B.exec
  have hb := B.bytes
  have hr := B.returns
  have hts := atoms_spec (ws := (.code y_M_init b_M_init 1 none :: wB)) B.pre
  have htB : ∀ w ∈ wB, w.before _ s = true := fun w h => hts w (List.mem_cons_of_mem _ h)
  have hown : s.vm.findClass R_M = some mm.cls := findClass_of_methodNamed B.named
  have hlocks := B.notSynchronized
  have hin : meth.name = "<init>" := (name_of_methodNamed B.named B.method).1
  subst hsz
  have hD := hD0.self (sz := s.heap.size)
  generalize hAe : va_A [(h0, .inr (1, [.int (nI 0), .null, .null, .null, .int (nI 0), .int (nI 0), .null, .null]))] s.heap.size = A at hD ⊢
  have hA : ∀ q : Nat, s.heap.size ≤ q → A q := fun q h => by rw [← hAe]; exact Or.inr h
  have hS : va_S A s.heap s.heap [] := va_S.rf
  have hl := lv_entry ([.ref h0]) (n := 1) (Nat.le_of_ble_eq_true rfl)
  rw [lg_entry_eq]
  generalize (lg_sl ([.ref h0]) ++ List.replicate (1 - (lg_sl ([.ref h0])).length) Slot.unset).toArray = ls at hl ⊢
  have hl : lv_has ls 1 [(0, .ref h0)] := hl
  refine lv_aload_n hx hb d_M_init_0 rfl (lv_at hl 0 rfl) ?_
  refine W.objInit hx hb hown (htB _ hml_M_1) (htB _ hinm_objectInit) (htB _ hco_objectInit) rfl (by rw [hml]; exact hl.1) rfl d_M_init_1 (Nat.le_of_ble_eq_true rfl) (Nat.le_of_ble_eq_true rfl) ?_
  refine W.eq (g2 := F0 mm 4 ls []) rfl ?_
  refine lv_aload_n hx hb d_M_init_4 rfl (lv_at hl 0 rfl) ?_
  refine lv_sipush (v := nI 400) hx hb d_M_init_5 (by decide) ?_
  refine va_newa (atype := .int) (ty := .int) (a0 := (400, .inl (fun _ => 0))) hx hb (htB _ har_int) rfl hK hP hD hS hA (fun _ => rfl) (by decide) (by decide) (by decide) (Nat.le_of_ble_eq_true rfl) (Nat.le_of_ble_eq_true rfl) d_M_init_8 (fun q1 c1 H hK hP hD hS => ?_)
  have hP : va_P (dC, dI) classes [(h0, .inr (1, [.int (nI 0), .null, .null, .null, .int (nI 0), .int (nI 0), .null, .null])), (q1, .inl (c1, 400, .inl (fun _ => 0)))] H := hP
  have hD : va_D A [(h0, .inr (1, [.int (nI 0), .null, .null, .null, .int (nI 0), .int (nI 0), .null, .null])), (q1, .inl (c1, 400, .inl (fun _ => 0)))] := hD
  have hK : va_K (dC, dI) classes [(c1, .int)] s := hK
  refine W.widen (k := 1) (n := 400) (Nat.le_of_ble_eq_true rfl) (Nat.le_of_ble_eq_true rfl) ?_
  refine va_putF (D := (dC, dI)) (ci := 1) (v := .ref q1) (ty := .array .int) (C := R_M) (T := F_M) (N := 8) hx hb htB in_M t_M t_M_ok n_M hown hK hP hD hS 0 rfl rfl 1 (by decide) (htB _ hfl_M_7) (fun _ h9 => h9) rfl hin rfl (by decide +kernel) rfl rfl (Nat.le_of_ble_eq_true rfl) d_M_init_10 (fun H locs hP hD hS => ?_)
  have hP : va_P (dC, dI) classes [(h0, .inr (1, [.int (nI 0), .ref q1, .null, .null, .int (nI 0), .int (nI 0), .null, .null])), (q1, .inl (c1, 400, .inl (fun _ => 0)))] H := hP
  have hD : va_D A [(h0, .inr (1, [.int (nI 0), .ref q1, .null, .null, .int (nI 0), .int (nI 0), .null, .null])), (q1, .inl (c1, 400, .inl (fun _ => 0)))] := hD
  refine lv_aload_n hx hb d_M_init_13 rfl (lv_at hl 0 rfl) ?_
  refine lv_sipush (v := nI 200) hx hb d_M_init_14 (by decide) ?_
  refine va_newa (atype := .int) (ty := .int) (a0 := (200, .inl (fun _ => 0))) hx hb (htB _ har_int) rfl hK hP hD hS hA (fun _ => rfl) (by decide) (by decide) (by decide) (Nat.le_of_ble_eq_true rfl) (Nat.le_of_ble_eq_true rfl) d_M_init_17 (fun q2 c2 H hK hP hD hS => ?_)
  have hP : va_P (dC, dI) classes [(h0, .inr (1, [.int (nI 0), .ref q1, .null, .null, .int (nI 0), .int (nI 0), .null, .null])), (q1, .inl (c1, 400, .inl (fun _ => 0))), (q2, .inl (c2, 200, .inl (fun _ => 0)))] H := hP
  have hD : va_D A [(h0, .inr (1, [.int (nI 0), .ref q1, .null, .null, .int (nI 0), .int (nI 0), .null, .null])), (q1, .inl (c1, 400, .inl (fun _ => 0))), (q2, .inl (c2, 200, .inl (fun _ => 0)))] := hD
  have hK : va_K (dC, dI) classes [(c1, .int), (c2, .int)] s := hK
  refine W.widen (k := 2) (n := 600) (Nat.le_of_ble_eq_true rfl) (Nat.le_of_ble_eq_true rfl) ?_
  refine va_putF (D := (dC, dI)) (ci := 1) (v := .ref q2) (ty := .array .int) (C := R_M) (T := F_M) (N := 8) hx hb htB in_M t_M t_M_ok n_M hown hK hP hD hS 0 rfl rfl 2 (by decide) (htB _ hfl_M_13) (fun _ h9 => h9) rfl hin rfl (by decide +kernel) rfl rfl (Nat.le_of_ble_eq_true rfl) d_M_init_19 (fun H locs hP hD hS => ?_)
  have hP : va_P (dC, dI) classes [(h0, .inr (1, [.int (nI 0), .ref q1, .ref q2, .null, .int (nI 0), .int (nI 0), .null, .null])), (q1, .inl (c1, 400, .inl (fun _ => 0))), (q2, .inl (c2, 200, .inl (fun _ => 0)))] H := hP
  have hD : va_D A [(h0, .inr (1, [.int (nI 0), .ref q1, .ref q2, .null, .int (nI 0), .int (nI 0), .null, .null])), (q1, .inl (c1, 400, .inl (fun _ => 0))), (q2, .inl (c2, 200, .inl (fun _ => 0)))] := hD
  refine lv_aload_n hx hb d_M_init_22 rfl (lv_at hl 0 rfl) ?_
  refine lv_sipush (v := nI 200) hx hb d_M_init_23 (by decide) ?_
  refine va_newa (atype := .boolean) (ty := .boolean) (a0 := (200, .inl (fun _ => 0))) hx hb (htB _ har_boolean) rfl hK hP hD hS hA (fun _ => rfl) (by decide) (by decide) (by decide) (Nat.le_of_ble_eq_true rfl) (Nat.le_of_ble_eq_true rfl) d_M_init_26 (fun q3 c3 H hK hP hD hS => ?_)
  have hP : va_P (dC, dI) classes [(h0, .inr (1, [.int (nI 0), .ref q1, .ref q2, .null, .int (nI 0), .int (nI 0), .null, .null])), (q1, .inl (c1, 400, .inl (fun _ => 0))), (q2, .inl (c2, 200, .inl (fun _ => 0))), (q3, .inl (c3, 200, .inl (fun _ => 0)))] H := hP
  have hD : va_D A [(h0, .inr (1, [.int (nI 0), .ref q1, .ref q2, .null, .int (nI 0), .int (nI 0), .null, .null])), (q1, .inl (c1, 400, .inl (fun _ => 0))), (q2, .inl (c2, 200, .inl (fun _ => 0))), (q3, .inl (c3, 200, .inl (fun _ => 0)))] := hD
  have hK : va_K (dC, dI) classes [(c1, .int), (c2, .int), (c3, .boolean)] s := hK
  refine W.widen (k := 3) (n := 800) (Nat.le_of_ble_eq_true rfl) (Nat.le_of_ble_eq_true rfl) ?_
  refine va_putF (D := (dC, dI)) (ci := 1) (v := .ref q3) (ty := .array .boolean) (C := R_M) (T := F_M) (N := 8) hx hb htB in_M t_M t_M_ok n_M hown hK hP hD hS 0 rfl rfl 3 (by decide) (htB _ hfl_M_16) (fun _ h9 => h9) rfl hin rfl (by decide +kernel) rfl rfl (Nat.le_of_ble_eq_true rfl) d_M_init_28 (fun H locs hP hD hS => ?_)
  have hP : va_P (dC, dI) classes [(h0, .inr (1, [.int (nI 0), .ref q1, .ref q2, .ref q3, .int (nI 0), .int (nI 0), .null, .null])), (q1, .inl (c1, 400, .inl (fun _ => 0))), (q2, .inl (c2, 200, .inl (fun _ => 0))), (q3, .inl (c3, 200, .inl (fun _ => 0)))] H := hP
  have hD : va_D A [(h0, .inr (1, [.int (nI 0), .ref q1, .ref q2, .ref q3, .int (nI 0), .int (nI 0), .null, .null])), (q1, .inl (c1, 400, .inl (fun _ => 0))), (q2, .inl (c2, 200, .inl (fun _ => 0))), (q3, .inl (c3, 200, .inl (fun _ => 0)))] := hD
  refine lv_aload_n hx hb d_M_init_31 rfl (lv_at hl 0 rfl) ?_
  refine lv_sipush (v := nI 401) hx hb d_M_init_32 (by decide) ?_
  refine va_newa (atype := .boolean) (ty := .boolean) (a0 := (401, .inl (fun _ => 0))) hx hb (htB _ har_boolean) rfl hK hP hD hS hA (fun _ => rfl) (by decide) (by decide) (by decide) (Nat.le_of_ble_eq_true rfl) (Nat.le_of_ble_eq_true rfl) d_M_init_35 (fun q4 c4 H hK hP hD hS => ?_)
  have hP : va_P (dC, dI) classes [(h0, .inr (1, [.int (nI 0), .ref q1, .ref q2, .ref q3, .int (nI 0), .int (nI 0), .null, .null])), (q1, .inl (c1, 400, .inl (fun _ => 0))), (q2, .inl (c2, 200, .inl (fun _ => 0))), (q3, .inl (c3, 200, .inl (fun _ => 0))), (q4, .inl (c4, 401, .inl (fun _ => 0)))] H := hP
  have hD : va_D A [(h0, .inr (1, [.int (nI 0), .ref q1, .ref q2, .ref q3, .int (nI 0), .int (nI 0), .null, .null])), (q1, .inl (c1, 400, .inl (fun _ => 0))), (q2, .inl (c2, 200, .inl (fun _ => 0))), (q3, .inl (c3, 200, .inl (fun _ => 0))), (q4, .inl (c4, 401, .inl (fun _ => 0)))] := hD
  have hK : va_K (dC, dI) classes [(c1, .int), (c2, .int), (c3, .boolean), (c4, .boolean)] s := hK
  refine W.widen (k := 4) (n := 1201) (Nat.le_of_ble_eq_true rfl) (Nat.le_of_ble_eq_true rfl) ?_
  refine va_putF (D := (dC, dI)) (ci := 1) (v := .ref q4) (ty := .array .boolean) (C := R_M) (T := F_M) (N := 8) hx hb htB in_M t_M t_M_ok n_M hown hK hP hD hS 0 rfl rfl 6 (by decide) (htB _ hfl_M_20) (fun _ h9 => h9) rfl hin rfl (by decide +kernel) rfl rfl (Nat.le_of_ble_eq_true rfl) d_M_init_37 (fun H locs hP hD hS => ?_)
  have hP : va_P (dC, dI) classes [(h0, .inr (1, [.int (nI 0), .ref q1, .ref q2, .ref q3, .int (nI 0), .int (nI 0), .ref q4, .null])), (q1, .inl (c1, 400, .inl (fun _ => 0))), (q2, .inl (c2, 200, .inl (fun _ => 0))), (q3, .inl (c3, 200, .inl (fun _ => 0))), (q4, .inl (c4, 401, .inl (fun _ => 0)))] H := hP
  have hD : va_D A [(h0, .inr (1, [.int (nI 0), .ref q1, .ref q2, .ref q3, .int (nI 0), .int (nI 0), .ref q4, .null])), (q1, .inl (c1, 400, .inl (fun _ => 0))), (q2, .inl (c2, 200, .inl (fun _ => 0))), (q3, .inl (c3, 200, .inl (fun _ => 0))), (q4, .inl (c4, 401, .inl (fun _ => 0)))] := hD
  refine lv_aload_n hx hb d_M_init_40 rfl (lv_at hl 0 rfl) ?_
  refine lv_sipush (v := nI 401) hx hb d_M_init_41 (by decide) ?_
  refine va_newa (atype := .boolean) (ty := .boolean) (a0 := (401, .inl (fun _ => 0))) hx hb (htB _ har_boolean) rfl hK hP hD hS hA (fun _ => rfl) (by decide) (by decide) (by decide) (Nat.le_of_ble_eq_true rfl) (Nat.le_of_ble_eq_true rfl) d_M_init_44 (fun q5 c5 H hK hP hD hS => ?_)
  have hP : va_P (dC, dI) classes [(h0, .inr (1, [.int (nI 0), .ref q1, .ref q2, .ref q3, .int (nI 0), .int (nI 0), .ref q4, .null])), (q1, .inl (c1, 400, .inl (fun _ => 0))), (q2, .inl (c2, 200, .inl (fun _ => 0))), (q3, .inl (c3, 200, .inl (fun _ => 0))), (q4, .inl (c4, 401, .inl (fun _ => 0))), (q5, .inl (c5, 401, .inl (fun _ => 0)))] H := hP
  have hD : va_D A [(h0, .inr (1, [.int (nI 0), .ref q1, .ref q2, .ref q3, .int (nI 0), .int (nI 0), .ref q4, .null])), (q1, .inl (c1, 400, .inl (fun _ => 0))), (q2, .inl (c2, 200, .inl (fun _ => 0))), (q3, .inl (c3, 200, .inl (fun _ => 0))), (q4, .inl (c4, 401, .inl (fun _ => 0))), (q5, .inl (c5, 401, .inl (fun _ => 0)))] := hD
  have hK : va_K (dC, dI) classes [(c1, .int), (c2, .int), (c3, .boolean), (c4, .boolean), (c5, .boolean)] s := hK
  refine W.widen (k := 5) (n := 1602) (Nat.le_of_ble_eq_true rfl) (Nat.le_of_ble_eq_true rfl) ?_
  refine va_putF (D := (dC, dI)) (ci := 1) (v := .ref q5) (ty := .array .boolean) (C := R_M) (T := F_M) (N := 8) hx hb htB in_M t_M t_M_ok n_M hown hK hP hD hS 0 rfl rfl 7 (by decide) (htB _ hfl_M_23) (fun _ h9 => h9) rfl hin rfl (by decide +kernel) rfl rfl (Nat.le_of_ble_eq_true rfl) d_M_init_46 (fun H locs hP hD hS => ?_)
  have hP : va_P (dC, dI) classes [(h0, .inr (1, [.int (nI 0), .ref q1, .ref q2, .ref q3, .int (nI 0), .int (nI 0), .ref q4, .ref q5])), (q1, .inl (c1, 400, .inl (fun _ => 0))), (q2, .inl (c2, 200, .inl (fun _ => 0))), (q3, .inl (c3, 200, .inl (fun _ => 0))), (q4, .inl (c4, 401, .inl (fun _ => 0))), (q5, .inl (c5, 401, .inl (fun _ => 0)))] H := hP
  have hD : va_D A [(h0, .inr (1, [.int (nI 0), .ref q1, .ref q2, .ref q3, .int (nI 0), .int (nI 0), .ref q4, .ref q5])), (q1, .inl (c1, 400, .inl (fun _ => 0))), (q2, .inl (c2, 200, .inl (fun _ => 0))), (q3, .inl (c3, 200, .inl (fun _ => 0))), (q4, .inl (c4, 401, .inl (fun _ => 0))), (q5, .inl (c5, 401, .inl (fun _ => 0)))] := hD
  obtain rfl : c1 = c2 := Option.some.inj ((hK.2 0 _ rfl).2.symm.trans (hK.2 1 _ rfl).2)
  obtain rfl : c3 = c4 := Option.some.inj ((hK.2 2 _ rfl).2.symm.trans (hK.2 3 _ rfl).2)
  obtain rfl : c3 = c5 := Option.some.inj ((hK.2 2 _ rfl).2.symm.trans (hK.2 4 _ rfl).2)
  have hK := hK.sub (tys' := tyIZ c1 c3) [0, 2] rfl
  have hP : va_P (dC, dI) classes (wM h0 q1 q2 q3 q4 q5 c1 c3 (nI 0) (fun _ => 0) (fun _ => 0) (fun _ => 0) (fun _ => 0) (fun _ => 0) 0 0) H := hP
  have hD : va_D A (wM h0 q1 q2 q3 q4 q5 c1 c3 (nI 0) (fun _ => 0) (fun _ => 0) (fun _ => 0) (fun _ => 0) (fun _ => 0) 0 0) := hD
  refine W.widen (k := 5) (n := 1602) (Nat.le_of_ble_eq_true rfl) (Nat.le_of_ble_eq_true rfl) ?_
  exact W.vret hx hb hr (fun t ht hW => ⟨⟨(), rfl, trivial, q1, q2, q3, q4, q5, c1, c3, by rw [ht]; exact hP, va_K.moved hW.alike hK, hD⟩, hS.F ht⟩) hS.2.2 d_M_init_49
end
section
/-! the class's row and the reference's rows say the same -/
theorem btr_some (b : Bool) (o1 o2 : Option Nat) : (btr b o1 o2).isSome = (o1.isSome || o2.isSome) := by
  cases o1 <;> cases o2 <;> rfl
theorem tar_sb {b : Bool} {g : Nat → Option Nat} {F : Nat → Bool} {frm too : Nat} (h : ∀ j, frm ≤ j → j ≤ too → (g j).isSome = F j) : ∀ d, frm + d ≤ too → (tar b g frm d).isSome = sbB F frm (d + 1)
  | 0, hd => by
    show (g frm).isSome = (false || F (frm + 0))
    rw [h frm (Nat.le_refl _) (by omega)]; rfl
  | d + 1, hd => by
    show (btr b (tar b g frm d) (g (frm + d + 1))).isSome = (sbB F frm (d + 1) || F (frm + (d + 1)))
    rw [btr_some, tar_sb h d (by omega), h (frm + d + 1) (by omega) (by omega)]; rfl
theorem sg_sgB {tx pt qt : Nat → Int32} {pn : Nat} {b : Bool} {g : Nat → Option Nat} {F : Nat → Bool} {frm too a : Nat} (h : ∀ j, frm ≤ j → j ≤ too → (g j).isSome = F j) : ∀ j, frm ≤ j → j ≤ too → (sg tx pt qt pn b frm g a j).isSome = sgB tx pt qt pn frm too F a j := by
  intro j h1 h2
  unfold sg sgB NB
  by_cases q : iu pt qt pn a (nI 42) = true
  · rw [if_pos q, if_pos q, if_neg (by omega), tar_sb h (j - frm) (by omega), decide_eq_true (by omega)]; rfl
  · rw [if_neg q, if_neg q]
    by_cases q2 : j ≤ frm
    · rw [if_pos q2, decide_eq_false (by omega)]; rfl
    · rw [if_neg q2, decide_eq_true (by omega)]
      unfold tk
      by_cases q3 : ft pt qt pn a (cl pt qt pn a) (tx (j - 1)) = true
      · rw [if_pos q3, h (j - 1) (by omega) (by omega), q3]; simp
      · rw [if_neg q3]
        rw [Bool.not_eq_true] at q3
        rw [q3]; simp
theorem rd_same {tx pt qt : Nat → Int32} {pn : Nat} {b : Bool} {frm too : Nat} : ∀ (f a : Nat) {g : Nat → Option Nat} {F : Nat → Bool}, (∀ j, frm ≤ j → j ≤ too → (g j).isSome = F j) → ∀ j, frm ≤ j → j ≤ too → (rdp tx pt qt pn b frm f a g j).isSome = rdB tx pt qt pn frm too f a F j
  | 0, a, g, F, h => h
  | f + 1, a, g, F, h => by
    unfold rdp rdB
    split
    · exact rd_same f (nx pt qt pn a) (sg_sgB h)
    · exact h
theorem mX_mM {tx pt qt : Nat → Int32} {pn frm too j : Nat} (h1 : frm ≤ j) (h2 : j ≤ too) : mX tx pt qt pn frm j = mM tx pt qt pn frm too j := by
  unfold mX mM
  refine rd_same pn 0 (fun i _ _ => ?_) j h1 h2
  unfold gs fB
  by_cases q : i = frm
  · rw [if_pos q, decide_eq_true q]; rfl
  · rw [if_neg q, decide_eq_false q]; rfl
theorem fnd_congr {f g : Nat → Bool} {lg : Bool} : ∀ n, (∀ i, i < n → f i = g i) → fnd f lg n = fnd g lg n
  | 0, _ => rfl
  | n + 1, h => by
    unfold fnd
    rw [h n (by omega), fnd_congr n (fun i q => h i (by omega))]
/-- o is the least, or the greatest, of the k with S -/
def Bst (lg : Bool) (o : Option Nat) (S : Nat → Bool) : Prop := (∀ k, o = some k → S k = true ∧ ∀ k', S k' = true → (if lg = true then k ≤ k' else k' ≤ k)) ∧ (o = none → ∀ k', S k' = false)
theorem Bst.cg {lg : Bool} {o : Option Nat} {S S' : Nat → Bool} (h : Bst lg o S) (e : ∀ k, S k = S' k) : Bst lg o S' := by
  have : S = S' := funext e
  subst this; exact h
theorem Bst.or {lg : Bool} {o1 o2 : Option Nat} {S1 S2 : Nat → Bool} (h1 : Bst lg o1 S1) (h2 : Bst lg o2 S2) : Bst lg (btr lg o1 o2) (fun k => S1 k || S2 k) := by
  cases o1 with
  | none =>
    refine Bst.cg (S := S2) h2 (fun k => ?_)
    rw [h1.2 rfl k, Bool.false_or]
  | some x =>
    cases o2 with
    | none =>
      refine Bst.cg (S := S1) h1 (fun k => ?_)
      rw [h2.2 rfl k, Bool.or_false]
    | some y =>
      obtain ⟨a1, a2⟩ := h1.1 x rfl
      obtain ⟨b1, b2⟩ := h2.1 y rfl
      refine ⟨fun k hk => ?_, fun hk => by cases hk⟩
      simp only [btr, Option.some.injEq] at hk
      cases lg with
      | true =>
        simp only [if_true] at hk a2 b2 ⊢
        refine ⟨?_, fun k' q => ?_⟩
        · rcases Nat.le_total x y with l | l
          · rw [Nat.min_eq_left l] at hk; rw [← hk, a1]; rfl
          · rw [Nat.min_eq_right l] at hk; rw [← hk, b1, Bool.or_true]
        · rw [Bool.or_eq_true] at q
          have e1 : min x y ≤ x := Nat.min_le_left _ _
          have e2 : min x y ≤ y := Nat.min_le_right _ _
          rcases q with q | q
          · have := a2 k' q; omega
          · have := b2 k' q; omega
      | false =>
        simp only [Bool.false_eq_true, if_false] at hk a2 b2 ⊢
        refine ⟨?_, fun k' q => ?_⟩
        · rcases Nat.le_total x y with l | l
          · rw [Nat.max_eq_right l] at hk; rw [← hk, b1, Bool.or_true]
          · rw [Nat.max_eq_left l] at hk; rw [← hk, a1]; rfl
        · rw [Bool.or_eq_true] at q
          have e1 : x ≤ max x y := Nat.le_max_left _ _
          have e2 : y ≤ max x y := Nat.le_max_right _ _
          rcases q with q | q
          · have := a2 k' q; omega
          · have := b2 k' q; omega
theorem Bst.no {lg : Bool} {S : Nat → Bool} (h : ∀ k, S k = false) : Bst lg none S := ⟨fun k q => (by cases q), fun _ => h⟩
/-- behind a *: the best of all places so far -/
theorem tar_Bst {lg : Bool} {tn : Nat} {g : Nat → Option Nat} {FF : Nat → Nat → Bool} (h : ∀ j, j ≤ tn → Bst lg (g j) (fun k => decide (k ≤ j) && FF k j)) : ∀ d, d ≤ tn → Bst lg (tar lg g 0 d) (fun k => decide (k ≤ d) && sbB (FF k) k (d - k + 1))
  | 0, hd => by
    refine Bst.cg (h 0 hd) (fun k => ?_)
    by_cases q : k ≤ 0
    · obtain rfl : k = 0 := by omega
      rfl
    · rw [decide_eq_false q]; rfl
  | d + 1, hd => by
    have h1 := tar_Bst h d (by omega)
    have h2 := h (d + 1) hd
    have h3 := Bst.or h1 h2
    have e : tar lg g 0 (d + 1) = btr lg (tar lg g 0 d) (g (d + 1)) := by
      show btr lg (tar lg g 0 d) (g (0 + d + 1)) = _
      rw [Nat.zero_add]
    rw [e]
    refine Bst.cg h3 (fun k => ?_)
    show ((decide (k ≤ d) && sbB (FF k) k (d - k + 1)) || (decide (k ≤ d + 1) && FF k (d + 1))) = (decide (k ≤ d + 1) && sbB (FF k) k (d + 1 - k + 1))
    by_cases q : k ≤ d
    · rw [decide_eq_true q, decide_eq_true (show k ≤ d + 1 by omega), show d + 1 - k + 1 = (d - k + 1) + 1 by omega]
      show _ = (true && (sbB (FF k) k (d - k + 1) || FF k (k + (d - k + 1))))
      rw [show k + (d - k + 1) = d + 1 by omega]
      simp
    · rw [decide_eq_false q]
      by_cases q2 : k ≤ d + 1
      · obtain rfl : k = d + 1 := by omega
        rw [Nat.sub_self]
        show (false && _ || (decide (d + 1 ≤ d + 1) && FF (d + 1) (d + 1))) = (decide (d + 1 ≤ d + 1) && (false || FF (d + 1) (d + 1 + 0)))
        simp
      · rw [decide_eq_false q2]; rfl
theorem sg_Bst {tx pt qt : Nat → Int32} {pn : Nat} {lg : Bool} {tn a : Nat} {g : Nat → Option Nat} {FF : Nat → Nat → Bool} (h : ∀ j, j ≤ tn → Bst lg (g j) (fun k => decide (k ≤ j) && FF k j)) : ∀ j, j ≤ tn → Bst lg (sg tx pt qt pn lg 0 g a j) (fun k => decide (k ≤ j) && sgB tx pt qt pn k tn (FF k) a j) := by
  intro j hj
  unfold sg
  by_cases q : iu pt qt pn a (nI 42) = true
  · rw [if_pos q, if_neg (by omega), Nat.sub_zero]
    refine Bst.cg (tar_Bst h j hj) (fun k => ?_)
    unfold sgB NB
    rw [if_pos q]
    by_cases q2 : k ≤ j
    · rw [decide_eq_true q2, decide_eq_true (show k ≤ j ∧ j < k + (tn + 1 - k) by omega)]; simp
    · rw [decide_eq_false q2]; rfl
  · rw [if_neg q]
    have e : ∀ k, (decide (k ≤ j) && sgB tx pt qt pn k tn (FF k) a j) = (decide (k < j) && (FF k (j - 1) && ft pt qt pn a (cl pt qt pn a) (tx (j - 1)))) := by
      intro k
      unfold sgB NB
      rw [if_neg q]
      by_cases q2 : k < j
      · rw [decide_eq_true q2, decide_eq_true (show k ≤ j by omega), decide_eq_true (show k < j ∧ j ≤ k + (tn + 1 - k) ∧ j ≤ tn by omega)]; simp
      · rw [decide_eq_false q2, decide_eq_false (show ¬ (k < j ∧ j ≤ k + (tn + 1 - k) ∧ j ≤ tn) by omega)]; simp
    by_cases q2 : j ≤ 0
    · rw [if_pos q2]
      refine Bst.no (fun k => ?_)
      rw [e k, decide_eq_false (by omega)]; rfl
    · rw [if_neg q2]
      unfold tk
      by_cases q3 : ft pt qt pn a (cl pt qt pn a) (tx (j - 1)) = true
      · rw [if_pos q3]
        refine Bst.cg (h (j - 1) (by omega)) (fun k => ?_)
        rw [e k, q3]
        by_cases q4 : k < j
        · rw [decide_eq_true q4, decide_eq_true (show k ≤ j - 1 by omega)]; simp
        · rw [decide_eq_false q4, decide_eq_false (show ¬ k ≤ j - 1 by omega)]; rfl
      · rw [if_neg q3]
        rw [Bool.not_eq_true] at q3
        refine Bst.no (fun k => ?_)
        rw [e k, q3]; simp
theorem rd_Bst {tx pt qt : Nat → Int32} {pn : Nat} {lg : Bool} {tn : Nat} : ∀ (f a : Nat) {g : Nat → Option Nat} {FF : Nat → Nat → Bool}, (∀ j, j ≤ tn → Bst lg (g j) (fun k => decide (k ≤ j) && FF k j)) → ∀ j, j ≤ tn → Bst lg (rdp tx pt qt pn lg 0 f a g j) (fun k => decide (k ≤ j) && rdB tx pt qt pn k tn f a (FF k) j)
  | 0, a, g, FF, h => h
  | f + 1, a, g, FF, h => by
    unfold rdp rdB
    by_cases q : a < pn
    · simp only [if_pos q]
      exact rd_Bst f (nx pt qt pn a) (FF := fun k => sgB tx pt qt pn k tn (FF k) a) (sg_Bst h)
    · simp only [if_neg q]
      exact h
theorem ga_Bst {lg : Bool} {tn : Nat} (ht : tn ≤ 400) : ∀ j, j ≤ tn → Bst lg (ga j) (fun k => decide (k ≤ j) && fB k j) := by
  intro j hj
  unfold ga fB
  rw [if_pos (by omega)]
  refine ⟨fun k hk => ?_, fun hk => by cases hk⟩
  cases hk
  refine ⟨by simp, fun k' q => ?_⟩
  rw [Bool.and_eq_true, decide_eq_true_eq, decide_eq_true_eq] at q
  obtain ⟨_, rfl⟩ := q
  split <;> exact Nat.le_refl _
theorem fnd_some {f : Nat → Bool} {lg : Bool} : ∀ (n : Nat), (∀ i, fnd f lg n = some i → i < n ∧ f i = true ∧ ∀ i', i' < n → f i' = true → (if lg = true then i' ≤ i else i ≤ i')) ∧ (fnd f lg n = none → ∀ i', i' < n → f i' = false)
  | 0 => ⟨fun i h => by simp [fnd] at h, fun _ i' h => absurd h (by omega)⟩
  | n + 1 => by
    obtain ⟨h1, h2⟩ := @fnd_some f lg n
    by_cases q : (f n && (lg || (fnd f lg n).isNone)) = true
    · have e : fnd f lg (n + 1) = some n := by conv => { lhs; unfold fnd }; rw [if_pos q]
      rw [e]
      rw [Bool.and_eq_true] at q
      refine ⟨fun i hi => ?_, fun hi => by cases hi⟩
      cases hi
      refine ⟨by omega, q.1, fun i' q1 q2 => ?_⟩
      cases lg with
      | true => rw [if_pos rfl]; omega
      | false =>
        simp only [Bool.false_or] at q
        have hn : fnd f false n = none := by
          cases z : fnd f false n with
          | none => rfl
          | some w => rw [z] at q; exact absurd q.2 (by simp)
        rw [if_neg (by decide)]
        rcases Nat.lt_or_ge i' n with l | l
        · have := h2 hn i' l; rw [this] at q2; cases q2
        · omega
    · have e : fnd f lg (n + 1) = fnd f lg n := by conv => { lhs; unfold fnd }; rw [if_neg q]
      rw [e]
      refine ⟨fun i hi => ?_, fun hi i' q1 => ?_⟩
      · obtain ⟨c1, c2, c3⟩ := h1 i hi
        refine ⟨by omega, c2, fun i' q1 q2 => ?_⟩
        rcases Nat.lt_or_ge i' n with l | l
        · exact c3 i' l q2
        · obtain rfl : i' = n := by omega
          cases lg with
          | true => rw [q2] at q; exact absurd rfl q
          | false => rw [if_neg (by decide)]; omega
      · rcases Nat.lt_or_ge i' n with l | l
        · exact h2 hi i' l
        · obtain rfl : i' = n := by omega
          cases z : f i' with
          | false => rfl
          | true => rw [z, hi] at q; exact absurd (by simp) q
theorem end_same {tx pt qt : Nat → Int32} {pn : Nat} {lg : Bool} {tn : Nat} (ht : tn ≤ 400) : eI tn (rdp tx pt qt pn lg 0 pn 0 ga tn) = oI (fnd (fun z => mM tx pt qt pn (tn - z) tn tn) lg (tn + 1)) := by
  have hB : Bst lg (rdp tx pt qt pn lg 0 pn 0 ga tn) (fun k => decide (k ≤ tn) && mM tx pt qt pn k tn tn) := rd_Bst pn 0 (ga_Bst ht) tn (Nat.le_refl _)
  obtain ⟨f1, f2⟩ := @fnd_some (fun z => mM tx pt qt pn (tn - z) tn tn) lg (tn + 1)
  cases ho : rdp tx pt qt pn lg 0 pn 0 ga tn with
  | none =>
    have hN := hB.2 ho
    cases hf : fnd (fun z => mM tx pt qt pn (tn - z) tn tn) lg (tn + 1) with
    | none => rfl
    | some i =>
      obtain ⟨c1, c2, -⟩ := f1 i hf
      have : (decide (tn - i ≤ tn) && mM tx pt qt pn (tn - i) tn tn) = false := hN (tn - i)
      rw [decide_eq_true (by omega), Bool.true_and] at this
      rw [this] at c2; cases c2
  | some k =>
    obtain ⟨b1, b2⟩ := hB.1 k ho
    rw [Bool.and_eq_true, decide_eq_true_eq] at b1
    cases hf : fnd (fun z => mM tx pt qt pn (tn - z) tn tn) lg (tn + 1) with
    | none =>
      have := f2 hf (tn - k) (by omega)
      rw [show tn - (tn - k) = k by omega] at this
      rw [this] at b1; exact absurd b1.2 (by decide)
    | some i =>
      obtain ⟨c1, c2, c3⟩ := f1 i hf
      have d1 := b2 (tn - i) (by rw [Bool.and_eq_true, decide_eq_true_eq]; exact ⟨by omega, c2⟩)
      have d2 := c3 (tn - k) (by omega) (by rw [show tn - (tn - k) = k by omega]; exact b1.2)
      have e : i = tn - k := by
        cases lg with
        | true => rw [if_pos rfl] at d1 d2; omega
        | false => rw [if_neg (by decide)] at d1 d2; omega
      show nI tn - nI k = nI i
      rw [pk_sub b1.1, e]
theorem begin_same {tx pt qt : Nat → Int32} {pn : Nat} {lg : Bool} {tn : Nat} : fnd (fun j => mX tx pt qt pn 0 j) lg (tn + 1) = fnd (fun z => mM tx pt qt pn 0 tn z) lg (tn + 1) :=
  fnd_congr (tn + 1) (fun i h => mX_mM (Nat.zero_le _) (by omega))
end
section
/-! the class: part, which may throw; the law's own part, which catches: by wip/whole/gen/gen25.py -/
abbrev eN : String := "java/lang/IndexOutOfBoundsException"
abbrev eT : String := "no such part of the text"
abbrev eA : List Cond := vx_atS R_X 46 eN ["java/lang/RuntimeException", "java/lang/Exception"]
abbrev zU (A : Nat → Prop) (U : State) (H : Heap) : Prop := vx_Zq Bundle.tN "UNASSIGNED_STACK" Bundle.steD A U H ∧ vx_Zq Bundle.tN "SUPPRESSED_SENTINEL" Bundle.listD A U H
abbrev eW : List Cond := [.declares (Bundle.initS "java/lang/RuntimeException"), .declares (Bundle.initS "java/lang/Exception"), .declares (Bundle.initS Bundle.tN), .castable eN eN]
def eD (U : State) : Prop := va_Nw (.declares (Bundle.initS "java/lang/RuntimeException")) U ∧ va_Nw (.declares (Bundle.initS "java/lang/Exception")) U ∧ va_Nw (.declares (Bundle.initS Bundle.tN)) U ∧ va_Nw (.castable eN eN) U
theorem eA_in : ∀ w ∈ eA.filter goodWord, w ∈ wB := by decide +kernel
theorem eA_rest : eA.filter (fun w => !goodWord w) = eW := by decide +kernel
theorem eA_at {args : Array Value} {s : State} (htB : ∀ w ∈ wB, w.before args s = true) (hc : eD s) : ∀ w ∈ eA, w.before args s = true := vx_hat (B := eW) (fun w h => htB w (eA_in w h)) (fun w h => by rw [eA_rest] at h; exact h) (vx_c (va_Nw.use rfl hc.1) (vx_c (va_Nw.use rfl hc.2.1) (vx_c (va_Nw.use rfl hc.2.2.1) (vx_c (va_Nw.use rfl hc.2.2.2) vx_n))))
theorem eA_good : ∀ w ∈ Cond.classLink R_X 42 eN :: Cond.initialized eN :: eA, vx_ot w = true := by decide +kernel
theorem zU.kept {A : Nat → Prop} {U : State} {H H1 : Heap} (h : zU A U H) (hq : ∀ a : Nat, a < H.size → ¬ A a → H1[a]? = H[a]?) : zU A U H1 := ⟨h.1.kept hq, h.2.kept hq⟩
theorem zU.moved {A : Nat → Prop} {u U : State} {H : Heap} (hvm : u.vm.Alike U.vm) (h : zU A u H) : zU A U H := ⟨h.1.moved hvm, h.2.moved hvm⟩
theorem zU.narrow {A B : Nat → Prop} {U : State} {H : Heap} (h : zU A U H) (hAB : ∀ q, B q → A q) : zU B U H := ⟨h.1.narrow hAB, h.2.narrow hAB⟩
/-- what a throw rests on: the text, the class itself, two statics that lie outside A -/
def eX (sa : Nat) (A : Nat → Prop) (U : State) (H : Heap) : Prop := vk_R R_X 44 eT sa U ∧ eD U ∧ zU A U H
theorem eX.warm {sa : Nat} {A B : Nat → Prop} {s U : State} {H H1 : Heap} (h : eX sa A s H) (hW : s.WarmedH U.vm) (hq : ∀ a : Nat, a < H.size → ¬ A a → H1[a]? = H[a]?) (hAB : ∀ q, B q → A q) : eX sa B U H1 := ⟨vk_R.warm hW h.1, ⟨va_Nw.warmD hW h.2.1.1, va_Nw.warmD hW h.2.1.2.1, va_Nw.warmD hW h.2.1.2.2.1, va_Nw.warmC hW h.2.1.2.2.2⟩, (zU.moved hW.alike (h.2.2.kept hq)).narrow hAB⟩
set_option maxHeartbeats 4000000 in
set_option maxRecDepth 100000 in
theorem c_X_part (l : Launch) (dC : Nat → ClassId) (dI : Nat → Nat → Nat) (h0 a1 a2 a3 a4 : Nat) (cI cZ : ClassId) (tx pt qt sr : Nat → Int32) (tn pn : Nat) (hlt : l.stackTraces = false) (sz sa : Nat) (hp : pn ≤ 200) (ht : tn ≤ 400) (p0 p1 : Int32) : vx_Met l y_X_part (.code y_X_part b_X_part 3 (some .boolean) :: wB) ({ frames := 6, cells := 1, slots := 6, locals := 145 } : Room) (va_Pc [.ref h0, .int p0, .int p1] (fun U => U.heap.size = sz ∧ va_P (dC, dI) classes (wX h0 a1 a2 a3 a4 cI cZ tx pt qt sr tn pn) U.heap ∧ va_K (dC, dI) classes (tyIZ cI cZ) U ∧ va_D (fun _ => True) (wX h0 a1 a2 a3 a4 cI cZ tx pt qt sr tn pn) ∧ eX sa (va_A (wX h0 a1 a2 a3 a4 cI cZ tx pt qt sr tn pn) sz) U U.heap)) (va_Qi (fun (r : Int32) (su : Nat → Int32) => okp tn p0 p1 = true ∧ r = bI (mX tx pt qt pn p0.toNatClampNeg p1.toNatClampNeg)) (fun (su : Nat → Int32) (t : State) => va_P (dC, dI) classes (wX h0 a1 a2 a3 a4 cI cZ tx pt qt su tn pn) t.heap ∧ va_K (dC, dI) classes (tyIZ cI cZ) t ∧ va_D (va_A (wX h0 a1 a2 a3 a4 cI cZ tx pt qt sr tn pn) sz) (wX h0 a1 a2 a3 a4 cI cZ tx pt qt su tn pn)) (va_A (wX h0 a1 a2 a3 a4 cI cZ tx pt qt sr tn pn) sz)) (vx_X (fun (_ : Unit) => okp tn p0 p1 = false) (fun (E : String) (_ : Unit) (t : State) => E = eN ∧ va_P (dC, dI) classes (wX h0 a1 a2 a3 a4 cI cZ tx pt qt sr tn pn) t.heap ∧ va_K (dC, dI) classes (tyIZ cI cZ) t ∧ va_D (va_A (wX h0 a1 a2 a3 a4 cI cZ tx pt qt sr tn pn) sz) (wX h0 a1 a2 a3 a4 cI cZ tx pt qt sr tn pn)) (va_A (wX h0 a1 a2 a3 a4 cI cZ tx pt qt sr tn pn) sz)) 1 6 (va_A (wX h0 a1 a2 a3 a4 cI cZ tx pt qt sr tn pn) sz) := by
  refine vx_ofW (cc := b_X_part) (maxL := 3) (ret := (some .boolean)) (by decide) rfl ?_
  intro p e s mm args below meth c s₁ B hml htab hv
  obtain ⟨rfl, hsz, hP, hK, hD0, hZ⟩ := hv
  have hx := B.exec
  have hb := B.bytes
  have hr := B.returns
  have hts := atoms_spec (ws := (.code y_X_part b_X_part 3 (some .boolean) :: wB)) B.pre
  have htB : ∀ w ∈ wB, w.before _ s = true := fun w h => hts w (List.mem_cons_of_mem _ h)
  have hown : s.vm.findClass R_X = some mm.cls := findClass_of_methodNamed B.named
  have hlocks := B.notSynchronized
  subst hsz
  have hD := hD0.self (sz := s.heap.size)
  generalize hAe : va_A (wX h0 a1 a2 a3 a4 cI cZ tx pt qt sr tn pn) s.heap.size = A at hD hZ ⊢
  have hA : ∀ q : Nat, s.heap.size ≤ q → A q := fun q h => by rw [← hAe]; exact Or.inr h
  have hS : va_S A s.heap s.heap [] := va_S.rf
  have hP : va_P (dC, dI) classes (wX h0 a1 a2 a3 a4 cI cZ tx pt qt sr tn pn) s.heap := hP
  have hl := lv_entry ([.ref h0, .int p0, .int p1]) (n := 3) (Nat.le_of_ble_eq_true rfl)
  rw [lg_entry_eq]
  generalize (lg_sl ([.ref h0, .int p0, .int p1]) ++ List.replicate (3 - (lg_sl ([.ref h0, .int p0, .int p1])).length) Slot.unset).toArray = ls at hl ⊢
  have hl : lv_has ls 3 [(0, .ref h0), (1, .int p0), (2, .int p1)] := hl
  refine lv_iload_n hx hb d_X_part_0 rfl (lv_at hl 1 rfl) ?_
  refine lv_if_lt (tgt := 17) hx hb d_X_part_1 (by decide) (fun c_1 => ?_) (fun c_1 => ?_)
  · have hno : okp tn p0 p1 = false := by first | exact okp_a ‹_› | exact okp_b ‹_› | exact okp_c ‹_›
    exact vx_throwS (text := eT) (names := ["java/lang/RuntimeException", "java/lang/Exception"]) (sa := sa) (A := A) hx hb hlt hown (by decide +kernel) (by decide +kernel) (htB _ hcl_X_42) (htB _ hini_IndexOutOfBoundsException) hZ.1 (eA_at htB hZ.2.1) eA_good hZ.2.2.1 hZ.2.2.2 hS (hl.1.trans hml.symm) d_X_part_17 d_X_part_20 d_X_part_21 d_X_part_23 d_X_part_26 (fun x h => (htab x h).elim) (Nat.le_of_ble_eq_true rfl) (Nat.le_of_ble_eq_true rfl) (Nat.le_of_ble_eq_true rfl) (Nat.le_of_ble_eq_true rfl) hlocks (fun t hW hz hk => ⟨(), hno, ⟨rfl, fun i q hq => (hP i q hq).kept (hk q.1 ((hP i q hq).lt)), va_K.moved hW hK, hD⟩, ⟨hz, fun q h1 _ => hk q h1⟩⟩) hS.2.2 (Nat.le_of_ble_eq_true rfl) (Nat.le_of_ble_eq_true rfl)
  · refine lv_iload_n hx hb d_X_part_4 rfl (lv_at hl 2 rfl) ?_
    refine lv_iload_n hx hb d_X_part_5 rfl (lv_at hl 1 rfl) ?_
    refine lv_icmp_lt (tgt := 17) hx hb d_X_part_6 (by decide) (fun c_2 => ?_) (fun c_2 => ?_)
    · have hno : okp tn p0 p1 = false := by first | exact okp_a ‹_› | exact okp_b ‹_› | exact okp_c ‹_›
      exact vx_throwS (text := eT) (names := ["java/lang/RuntimeException", "java/lang/Exception"]) (sa := sa) (A := A) hx hb hlt hown (by decide +kernel) (by decide +kernel) (htB _ hcl_X_42) (htB _ hini_IndexOutOfBoundsException) hZ.1 (eA_at htB hZ.2.1) eA_good hZ.2.2.1 hZ.2.2.2 hS (hl.1.trans hml.symm) d_X_part_17 d_X_part_20 d_X_part_21 d_X_part_23 d_X_part_26 (fun x h => (htab x h).elim) (Nat.le_of_ble_eq_true rfl) (Nat.le_of_ble_eq_true rfl) (Nat.le_of_ble_eq_true rfl) (Nat.le_of_ble_eq_true rfl) hlocks (fun t hW hz hk => ⟨(), hno, ⟨rfl, fun i q hq => (hP i q hq).kept (hk q.1 ((hP i q hq).lt)), va_K.moved hW hK, hD⟩, ⟨hz, fun q h1 _ => hk q h1⟩⟩) hS.2.2 (Nat.le_of_ble_eq_true rfl) (Nat.le_of_ble_eq_true rfl)
    · refine lv_iload_n hx hb d_X_part_9 rfl (lv_at hl 2 rfl) ?_
      refine lv_aload_n hx hb d_X_part_10 rfl (lv_at hl 0 rfl) ?_
      refine va_get (D := (dC, dI)) (ci := 0) (v := .int (nI tn)) (C := R_X) (T := F_X) (N := 6) hx hb htB in_X hown hK hP 0 rfl rfl 1 (by decide) (htB _ hfl_X_13) (fun _ h9 => h9) rfl d_X_part_11 ?_
      refine lv_icmp_le (tgt := 27) hx hb d_X_part_14 (by decide) (fun c_3 => ?_) (fun c_3 => ?_)
      · have hok := okp_y ‹¬ p0 < 0› ‹¬ p1 < p0› c_3
        obtain ⟨frm, too, hft, htt, rfl, rfl⟩ := okp_t ht ‹¬ p0 < 0› ‹¬ p1 < p0› c_3
        refine lv_aload_n hx hb d_X_part_27 rfl (lv_at hl 0 rfl) ?_
        refine lv_iload_n hx hb d_X_part_28 rfl (lv_at hl 1 rfl) ?_
        refine lv_iload_n hx hb d_X_part_29 rfl (lv_at hl 2 rfl) ?_
        refine r_X_pieceMatches hp hft (by omega) hx hb hml hown htB hK hP hD hS hA hl.1 (Nat.le_of_ble_eq_true rfl) ⟨Nat.le_of_ble_eq_true rfl, Nat.le_of_ble_eq_true rfl⟩ ⟨Nat.zero_le _, Nat.zero_le _⟩ d_X_part_30 (fun r_s1 s1 H locs hs1 hP hD hS => ?_)
        obtain rfl := hs1
        refine vx_ret (W.widen (k := 1) (n := 6) (Nat.zero_le _) (Nat.zero_le _) ?_)
        exact W.zret (v := bI (mX tx pt qt pn frm too)) hx hb hr (bI_nar _) (fun t ht hW => ⟨⟨_, s1, rfl, ⟨hok, by rw [nI_clamp (n := frm) (by omega), nI_clamp (n := too) (by omega)]⟩, by rw [ht]; exact hP, va_K.moved hW.alike hK, hD⟩, hS.F ht⟩) hS.2.2 d_X_part_33
      · have hno : okp tn p0 p1 = false := by first | exact okp_a ‹_› | exact okp_b ‹_› | exact okp_c ‹_›
        exact vx_throwS (text := eT) (names := ["java/lang/RuntimeException", "java/lang/Exception"]) (sa := sa) (A := A) hx hb hlt hown (by decide +kernel) (by decide +kernel) (htB _ hcl_X_42) (htB _ hini_IndexOutOfBoundsException) hZ.1 (eA_at htB hZ.2.1) eA_good hZ.2.2.1 hZ.2.2.2 hS (hl.1.trans hml.symm) d_X_part_17 d_X_part_20 d_X_part_21 d_X_part_23 d_X_part_26 (fun x h => (htab x h).elim) (Nat.le_of_ble_eq_true rfl) (Nat.le_of_ble_eq_true rfl) (Nat.le_of_ble_eq_true rfl) (Nat.le_of_ble_eq_true rfl) hlocks (fun t hW hz hk => ⟨(), hno, ⟨rfl, fun i q hq => (hP i q hq).kept (hk q.1 ((hP i q hq).lt)), va_K.moved hW hK, hD⟩, ⟨hz, fun q h1 _ => hk q h1⟩⟩) hS.2.2 (Nat.le_of_ble_eq_true rfl) (Nat.le_of_ble_eq_true rfl)
end
section
/-! the law's own part: it catches: by wip/whole/gen/gen26.py -/
abbrev wXO (h0 a1 a2 a3 a4 qo : Nat) (cI cZ cJ : ClassId) (tx pt qt sr : Nat → Int32) (tn pn : Nat) (ov : Nat → Int64) : va_W := wX h0 a1 a2 a3 a4 cI cZ tx pt qt sr tn pn ++ [(qo, .inl (cJ, 1, .inr (.inl ov)))]
abbrev tyJ (cI cZ cJ : ClassId) : List (ClassId × FieldType) := [(cI, .int), (cZ, .boolean), (cJ, .long)]
abbrev xNo : String → State → State → Prop := vx_X (fun (_ : Unit) => False) (fun _ _ _ => True) (fun _ => False)
def lp_r (ok mt : Bool) (r : Int32) (ov : Nat → Int64) : Prop := (ok = true → r = nI 0 ∧ ov 0 = (if mt = true then 1 else 0)) ∧ (ok = false → r = nI 1)
set_option maxHeartbeats 4000000 in
set_option maxRecDepth 100000 in
theorem c_L_part (l : Launch) (dC : Nat → ClassId) (dI : Nat → Nat → Nat) (h0 a1 a2 a3 a4 qo : Nat) (cI cZ cJ : ClassId) (tx pt qt sr : Nat → Int32) (tn pn : Nat) (ov : Nat → Int64) (hlt : l.stackTraces = false) (sz sa : Nat) (hp : pn ≤ 200) (ht4 : tn ≤ 400) (p0 p1 : Int32) : vx_Met l y_L_part (.codeWith y_L_part b_L_part 5 (some .int) [(0, 17, 20, 13)] :: wB) ({ frames := 7, cells := 1, slots := 6, locals := 167 } : Room) (va_Pc [.ref h0, .int p0, .int p1, .ref qo] (fun U => U.heap.size = sz ∧ va_P (dC, dI) classes (wXO h0 a1 a2 a3 a4 qo cI cZ cJ tx pt qt sr tn pn ov) U.heap ∧ va_K (dC, dI) classes (tyJ cI cZ cJ) U ∧ va_D (fun _ => True) (wXO h0 a1 a2 a3 a4 qo cI cZ cJ tx pt qt sr tn pn ov) ∧ eX sa (va_A (wXO h0 a1 a2 a3 a4 qo cI cZ cJ tx pt qt sr tn pn ov) sz) U U.heap)) (va_Qi (fun (r : Int32) (u : (Nat → Int32) × (Nat → Int64)) => lp_r (okp tn p0 p1) (mX tx pt qt pn p0.toNatClampNeg p1.toNatClampNeg) r u.2) (fun (u : (Nat → Int32) × (Nat → Int64)) (t : State) => va_P (dC, dI) classes (wXO h0 a1 a2 a3 a4 qo cI cZ cJ tx pt qt u.1 tn pn u.2) t.heap ∧ va_K (dC, dI) classes (tyJ cI cZ cJ) t ∧ va_D (va_A (wXO h0 a1 a2 a3 a4 qo cI cZ cJ tx pt qt sr tn pn ov) sz) (wXO h0 a1 a2 a3 a4 qo cI cZ cJ tx pt qt u.1 tn pn u.2)) (va_A (wXO h0 a1 a2 a3 a4 qo cI cZ cJ tx pt qt sr tn pn ov) sz)) xNo 1 6 (va_A (wXO h0 a1 a2 a3 a4 qo cI cZ cJ tx pt qt sr tn pn ov) sz) := by
  refine vx_ofWH (cc := b_L_part) (maxL := 5) (ret := (some .int)) (hh := [(0, 17, 20, 13)]) (by decide) rfl ?_
  intro p e s mm args below meth c s₁ B hml hv
  obtain ⟨rfl, hsz, hP, hK, hD0, hZ⟩ := hv
  have hx := B.exec
  have hb := B.bytes
  have hr := B.returns
  have hts := atoms_spec (ws := (.codeWith y_L_part b_L_part 5 (some .int) [(0, 17, 20, 13)] :: wB)) B.pre
  have htB : ∀ w ∈ wB, w.before _ s = true := fun w h => hts w (List.mem_cons_of_mem _ h)
  have htb : c.exceptionTable.toList = tableOf [(0, 17, 20, 13)] := vx_table (x := y_L_part) B (hts _ List.mem_cons_self)
  have hown : s.vm.findClass R_L = some mm.cls := findClass_of_methodNamed B.named
  have hlocks := B.notSynchronized
  subst hsz
  have hD := hD0.self (sz := s.heap.size)
  generalize hAe : va_A (wXO h0 a1 a2 a3 a4 qo cI cZ cJ tx pt qt sr tn pn ov) s.heap.size = A at hD hZ ⊢
  have hA : ∀ q : Nat, s.heap.size ≤ q → A q := fun q h => by rw [← hAe]; exact Or.inr h
  have hS : va_S A s.heap s.heap [] := va_S.rf
  have hl := lv_entry ([.ref h0, .int p0, .int p1, .ref qo]) (n := 5) (Nat.le_of_ble_eq_true rfl)
  rw [lg_entry_eq]
  generalize (lg_sl ([.ref h0, .int p0, .int p1, .ref qo]) ++ List.replicate (5 - (lg_sl ([.ref h0, .int p0, .int p1, .ref qo])).length) Slot.unset).toArray = ls at hl ⊢
  have hl : lv_has ls 5 [(0, .ref h0), (1, .int p0), (2, .int p1), (3, .ref qo)] := hl
  refine lv_aload_n hx hb d_L_part_0 rfl (lv_at hl 3 rfl) ?_
  refine lv_iconst (v := nI 0) hx hb d_L_part_1 (by decide) ?_
  refine lv_aload_n hx hb d_L_part_2 rfl (lv_at hl 0 rfl) ?_
  refine lv_iload_n hx hb d_L_part_3 rfl (lv_at hl 1 rfl) ?_
  refine lv_iload_n hx hb d_L_part_4 rfl (lv_at hl 2 rfl) ?_
  have hPc := hP.sub (ws' := (wX h0 a1 a2 a3 a4 cI cZ tx pt qt sr tn pn)) [0, 1, 2, 3, 4] rfl
  have hDc := hD.sub (ws' := (wX h0 a1 a2 a3 a4 cI cZ tx pt qt sr tn pn)) [0, 1, 2, 3, 4] (by decide) rfl
  have hKc := hK.sub (tys' := tyIZ cI cZ) [0, 1] rfl
  have hFc := va_free (wc := (wX h0 a1 a2 a3 a4 cI cZ tx pt qt sr tn pn)) hD hS hA [0, 1, 2, 3, 4] rfl
  refine vx_calli (vx_runV (As := [.int p0, .int p1]) (rest := [.int (nI 0), .ref qo]) ⟨hx, hb, hml, hown, htB⟩ (c_X_part l dC dI h0 a1 a2 a3 a4 cI cZ tx pt qt sr tn pn hlt s.heap.size sa hp ht4 p0 p1) (cwV 2 htB (gV hml_L_7 hinm_X_part hsel_X_part hini_X hco_X_part) rfl rfl rfl (by decide +kernel) ⟨Nat.le_of_ble_eq_true rfl, Nat.le_of_ble_eq_true rfl⟩) ⟨fun a U g mk q => by obtain ⟨q0, q1, qP, qK, qD, qZ⟩ := q; exact ⟨q0, q1, qP, va_K.moved (u := U) (U := U.calling g mk a) (Vm.Alike.refl U.vm) qK, qD, qZ.warm (U := U.calling g mk a) (State.WarmedH.refl U) (fun _ _ _ => rfl) (fun _ h => h)⟩, va_recv hKc hPc (ci := 0) (q0 := 0) rfl rfl, fun U hU hW => ⟨rfl, by rw [hU], by rw [hU]; exact hPc, va_K.moved hW.alike hKc, hDc.weaken (fun _ _ _ _ => trivial), by rw [hU]; exact hZ.warm hW (fun _ _ _ => rfl) hFc⟩⟩ rfl rfl hl.1 rfl (lv_room (Nat.le_of_ble_eq_true rfl)) d_L_part_5 ⟨Nat.le_of_ble_eq_true rfl, Nat.le_of_ble_eq_true rfl⟩) hS (fun q _ h => hFc q h) hFc (fun q _ h => hFc q h) (fun E ce q9 u t H1 locs1 ht hvm hpx hBX hz1 hk1 hS1 hcell hcv hcl => ?_) (fun r su t H1 locs1 ht hvm hw hB hz1 hk1 hS1 => ?_)
  · obtain ⟨rfl, hP1, hK1, hD1⟩ := hBX
    rw [ht] at hP1
    obtain ⟨hP, hD⟩ := va_join (wr := [(qo, .inl (cJ, 1, .inr (.inl ov)))]) (w1 := (wX h0 a1 a2 a3 a4 cI cZ tx pt qt sr tn pn)) hP hD [0, 1, 2, 3, 4] [5] rfl rfl (by decide) (by decide) hk1 hFc hP1 hD1
    have hP := hP.sub (ws' := (wXO h0 a1 a2 a3 a4 qo cI cZ cJ tx pt qt sr tn pn ov)) [1, 2, 3, 4, 5, 0] rfl
    have hD := hD.sub (ws' := (wXO h0 a1 a2 a3 a4 qo cI cZ cJ tx pt qt sr tn pn ov)) [1, 2, 3, 4, 5, 0] (by decide) rfl
    refine vx_catch (own := R_L) (name := eN) hown [] ⟨0, 17, 20, 13⟩ [] (by rw [htb]; rfl) (fun z hz => by cases hz) (by decide) (by decide) (htB _ hcl_L_13) (va_Nw.use rfl hZ.2.1.2.2.2) hcell hcv hcl ?_
    refine lv_astore (lv' := [(4, .ref q9), (0, .ref h0), (1, .int p0), (2, .int p1), (3, .ref qo)]) hx hb d_L_part_20 hl (by decide) rfl (fun ls hl => ?_)
    refine lv_iconst (v := nI 1) hx hb d_L_part_22 (by decide) ?_
    refine vx_ret ?_
    exact W.iret (v := nI 1) hx hb hr (fun t ht hW => ⟨⟨_, (sr, ov), rfl, ⟨fun q => (by rw [hpx] at q; cases q), fun _ => rfl⟩, by rw [ht]; exact hP, va_K.moved hW.alike hK, hD⟩, hS1.F ht⟩) hS1.2.2 d_L_part_23
  · obtain ⟨hP1, hK1, hD1⟩ := hB
    rw [ht] at hP1
    obtain ⟨hok, rfl⟩ := hw
    obtain ⟨hP, hD⟩ := va_join (wr := [(qo, .inl (cJ, 1, .inr (.inl ov)))]) (w1 := (wX h0 a1 a2 a3 a4 cI cZ tx pt qt su tn pn)) hP hD [0, 1, 2, 3, 4] [5] rfl rfl (by decide) (by decide) hk1 hFc hP1 hD1
    have hP := hP.sub (ws' := (wXO h0 a1 a2 a3 a4 qo cI cZ cJ tx pt qt su tn pn ov)) [1, 2, 3, 4, 5, 0] rfl
    have hD := hD.sub (ws' := (wXO h0 a1 a2 a3 a4 qo cI cZ cJ tx pt qt su tn pn ov)) [1, 2, 3, 4, 5, 0] (by decide) rfl
    refine lv_if_eq (tgt := 15) hx hb d_L_part_8 (by decide) (fun c_1 => ?_) (fun c_1 => ?_)
    · have c_1 := bI_z.mp c_1
      refine lv_lconst (v := 0) hx hb d_L_part_15 (by decide) ?_
      refine va_last hx hb hK hP hD hS1 5 2 rfl rfl (vp_in_nI (n := 0) (by decide) (by decide)) d_L_part_16 (fun H2 locs2 hP hD hS2 => ?_)
      have hP : va_P (dC, dI) classes (wXO h0 a1 a2 a3 a4 qo cI cZ cJ tx pt qt su tn pn (vp_updL ov (nI 0).toNatClampNeg 0)) H2 := hP
      have hD : va_D A (wXO h0 a1 a2 a3 a4 qo cI cZ cJ tx pt qt su tn pn (vp_updL ov (nI 0).toNatClampNeg 0)) := hD
      refine lv_goto (tgt := 24) hx hb d_L_part_17 (by decide) ?_
      refine lv_iconst (v := nI 0) hx hb d_L_part_24 (by decide) ?_
      refine vx_ret ?_
      exact W.iret (v := nI 0) hx hb hr (fun t ht hW => ⟨⟨_, (su, (vp_updL ov (nI 0).toNatClampNeg 0)), rfl, ⟨fun _ => ⟨rfl, by rw [c_1, nI_clamp (n := 0) (by decide)]; exact (pk_uLs (f := ov) (k := 0)).trans rfl⟩, fun q => (by rw [hok] at q; cases q)⟩, by rw [ht]; exact hP, va_K.moved hW.alike hK, hD⟩, hS2.F ht⟩) hS2.2.2 d_L_part_25
    · have c_1 := bI_nz.mp c_1
      refine lv_lconst (v := 1) hx hb d_L_part_11 (by decide) ?_
      refine lv_goto (tgt := 16) hx hb d_L_part_12 (by decide) ?_
      refine va_last hx hb hK hP hD hS1 5 2 rfl rfl (vp_in_nI (n := 0) (by decide) (by decide)) d_L_part_16 (fun H2 locs2 hP hD hS2 => ?_)
      have hP : va_P (dC, dI) classes (wXO h0 a1 a2 a3 a4 qo cI cZ cJ tx pt qt su tn pn (vp_updL ov (nI 0).toNatClampNeg 1)) H2 := hP
      have hD : va_D A (wXO h0 a1 a2 a3 a4 qo cI cZ cJ tx pt qt su tn pn (vp_updL ov (nI 0).toNatClampNeg 1)) := hD
      refine lv_goto (tgt := 24) hx hb d_L_part_17 (by decide) ?_
      refine lv_iconst (v := nI 0) hx hb d_L_part_24 (by decide) ?_
      refine vx_ret ?_
      exact W.iret (v := nI 0) hx hb hr (fun t ht hW => ⟨⟨_, (su, (vp_updL ov (nI 0).toNatClampNeg 1)), rfl, ⟨fun _ => ⟨rfl, by rw [c_1, nI_clamp (n := 0) (by decide)]; exact (pk_uLs (f := ov) (k := 0)).trans rfl⟩, fun q => (by rw [hok] at q; cases q)⟩, by rw [ht]; exact hP, va_K.moved hW.alike hK, hD⟩, hS2.F ht⟩) hS2.2.2 d_L_part_25
end
section
/-! the law's calls: what each does to the law's world: by wip/whole/gen/gen27.py -/
abbrev wLw (x0 x1 x2 x3 x4 m0 m1 m2 m3 m4 m5 qo : Nat) (cI cZ cJ : ClassId) (tx pt qt sr : Nat → Int32) (tn pn : Nat) (cd : Int32) (ux up uq ar nr : Nat → Int32) (un um : Nat) (ov : Nat → Int64) : va_W :=
  wX x0 x1 x2 x3 x4 cI cZ tx pt qt sr tn pn ++ (wM m0 m1 m2 m3 m4 m5 cI cZ cd ux up uq ar nr un um ++ [(qo, .inl (cJ, 1, .inr (.inl ov)))])
theorem q_X_text {p : Program} {l : Launch} {e : Env} {s : State} {mm : MethodId} {args : Array Value} {below : List Frame} {meth : Method} {c : Code} {H : Heap} {locs : List Loc} {cells slots : Nat} {Q : State → Prop} {pcn : Nat} {ls : Array Slot} {rest : List Value} {dC : Nat → ClassId} {dI : Nat → Nat → Nat} {x0 x1 x2 x3 x4 m0 m1 m2 m3 m4 m5 qo : Nat} {cI cZ cJ : ClassId} {tx pt qt sr : Nat → Int32} {tn pn : Nat} {cd : Int32} {ux up uq ar nr : Nat → Int32} {un um : Nat} {ov : Nat → Int64} {A : Nat → Prop} {H0 : Heap} (ht : tn ≤ 400) {x : Int64} {n : Int32} (hx : p.tables.exec = Jvm.exec) (hb : c.code = code) (hml : c.maxLocals = 7) (hown : s.vm.findClass R_L = some mm.cls) (htB : ∀ w ∈ wB, w.before args s = true) (hK : va_K (dC, dI) classes (tyJ cI cZ cJ) s) (hP : va_P (dC, dI) classes (wLw x0 x1 x2 x3 x4 m0 m1 m2 m3 m4 m5 qo cI cZ cJ tx pt qt sr tn pn cd ux up uq ar nr un um ov) H) (hD : va_D A (wLw x0 x1 x2 x3 x4 m0 m1 m2 m3 m4 m5 qo cI cZ cJ tx pt qt sr tn pn cd ux up uq ar nr un um ov)) (hS : va_S A H0 H locs) (hA : ∀ q : Nat, H0.size ≤ q → A q) (hls : ls.size = 7) (hre : (rest.map fun v => v.category).sum ≤ 8) (hce : cells ≤ 1037 ∧ slots ≤ 11016) (hd : decode code pcn = .ok (.invokevirtual 21, 3)) (kk : ∀ (H1 : Heap) (locs1 : List Loc), va_P (dC, dI) classes (wLw x0 x1 x2 x3 x4 m0 m1 m2 m3 m4 m5 qo cI cZ cJ (teT tx tn 400 x n) pt qt sr (teN tn 400 n) pn cd ux up uq ar nr un um ov) H1 → va_D A (wLw x0 x1 x2 x3 x4 m0 m1 m2 m3 m4 m5 qo cI cZ cJ (teT tx tn 400 x n) pt qt sr (teN tn 400 n) pn cd ux up uq ar nr un um ov) → va_S A H0 H1 locs1 → W p l e room_1 s mm args below meth c H1 locs1 cells slots Q (F0 mm (pcn + 3) ls (.int (teR tn 400 n) :: rest))) : W p l e room_1 s mm args below meth c H locs cells slots Q (F0 mm pcn ls (.int n :: .long x :: .ref x0 :: rest)) := by
  have hPc := hP.sub (ws' := (wX x0 x1 x2 x3 x4 cI cZ tx pt qt sr tn pn)) [0, 1, 2, 3, 4] rfl
  have hDc := hD.sub (ws' := (wX x0 x1 x2 x3 x4 cI cZ tx pt qt sr tn pn)) [0, 1, 2, 3, 4] (by decide) rfl
  have hKc := hK.sub (tys' := tyIZ cI cZ) [0, 1] rfl
  have hFc := va_free (wc := (wX x0 x1 x2 x3 x4 cI cZ tx pt qt sr tn pn)) hD hS hA [0, 1, 2, 3, 4] rfl
  refine va_calli (va_runV (As := [.long x, .int n]) (rest := rest) ⟨hx, hb, hml, hown, htB⟩ (c_X_text l dC dI x0 x1 x2 x3 x4 cI cZ tx pt qt sr tn pn H.size ht x n) (cwV 2 htB (gV hml_L_21 hinm_X_text hsel_X_text hini_X hco_X_text) rfl rfl rfl (by decide +kernel) ⟨Nat.le_of_ble_eq_true rfl, Nat.le_of_ble_eq_true rfl⟩) ⟨fun a U g mk q => by obtain ⟨q0, q1, qP, qK, qD⟩ := q; exact ⟨q0, q1, qP, va_K.moved (u := U) (U := U.calling g mk a) (Vm.Alike.refl U.vm) qK, qD⟩, va_recv hKc hPc (ci := 0) (q0 := 0) rfl rfl, fun U hU hW => ⟨rfl, by rw [hU], by rw [hU]; exact hPc, va_K.moved hW.alike hKc, hDc.weaken (fun _ _ _ _ => trivial)⟩⟩ rfl rfl hls rfl (lv_room hre) hd ⟨hce.1, hce.2⟩) hS (fun q _ h => hFc q h) hFc (fun r u t H1 locs1 ht hvm hw hB hz1 hk1 hS1 => ?_)
  obtain ⟨hP1, hK1, hD1⟩ := hB
  rw [ht] at hP1
  obtain ⟨rfl, rfl⟩ := hw
  have hj := va_join (wr := (wM m0 m1 m2 m3 m4 m5 cI cZ cd ux up uq ar nr un um ++ [(qo, .inl (cJ, 1, .inr (.inl ov)))])) (w1 := (wX x0 x1 x2 x3 x4 cI cZ (teT tx tn 400 x n) pt qt sr (teN tn 400 n) pn)) hP hD [0, 1, 2, 3, 4] [5, 6, 7, 8, 9, 10, 11] rfl rfl (by decide) (by decide) hk1 hFc hP1 hD1
  exact kk H1 locs1 (hj.1.sub (ws' := (wLw x0 x1 x2 x3 x4 m0 m1 m2 m3 m4 m5 qo cI cZ cJ (teT tx tn 400 x n) pt qt sr (teN tn 400 n) pn cd ux up uq ar nr un um ov)) [7, 8, 9, 10, 11, 0, 1, 2, 3, 4, 5, 6] rfl) (hj.2.sub (ws' := (wLw x0 x1 x2 x3 x4 m0 m1 m2 m3 m4 m5 qo cI cZ cJ (teT tx tn 400 x n) pt qt sr (teN tn 400 n) pn cd ux up uq ar nr un um ov)) [7, 8, 9, 10, 11, 0, 1, 2, 3, 4, 5, 6] (by decide) rfl) hS1

theorem q_M_text {p : Program} {l : Launch} {e : Env} {s : State} {mm : MethodId} {args : Array Value} {below : List Frame} {meth : Method} {c : Code} {H : Heap} {locs : List Loc} {cells slots : Nat} {Q : State → Prop} {pcn : Nat} {ls : Array Slot} {rest : List Value} {dC : Nat → ClassId} {dI : Nat → Nat → Nat} {x0 x1 x2 x3 x4 m0 m1 m2 m3 m4 m5 qo : Nat} {cI cZ cJ : ClassId} {tx pt qt sr : Nat → Int32} {tn pn : Nat} {cd : Int32} {ux up uq ar nr : Nat → Int32} {un um : Nat} {ov : Nat → Int64} {A : Nat → Prop} {H0 : Heap} (ht : un ≤ 400) {x : Int64} {n : Int32} (hx : p.tables.exec = Jvm.exec) (hb : c.code = code) (hml : c.maxLocals = 7) (hown : s.vm.findClass R_L = some mm.cls) (htB : ∀ w ∈ wB, w.before args s = true) (hK : va_K (dC, dI) classes (tyJ cI cZ cJ) s) (hP : va_P (dC, dI) classes (wLw x0 x1 x2 x3 x4 m0 m1 m2 m3 m4 m5 qo cI cZ cJ tx pt qt sr tn pn cd ux up uq ar nr un um ov) H) (hD : va_D A (wLw x0 x1 x2 x3 x4 m0 m1 m2 m3 m4 m5 qo cI cZ cJ tx pt qt sr tn pn cd ux up uq ar nr un um ov)) (hS : va_S A H0 H locs) (hA : ∀ q : Nat, H0.size ≤ q → A q) (hls : ls.size = 7) (hre : (rest.map fun v => v.category).sum ≤ 8) (hce : cells ≤ 1037 ∧ slots ≤ 11016) (hd : decode code pcn = .ok (.invokevirtual 25, 3)) (kk : ∀ (H1 : Heap) (locs1 : List Loc), va_P (dC, dI) classes (wLw x0 x1 x2 x3 x4 m0 m1 m2 m3 m4 m5 qo cI cZ cJ tx pt qt sr tn pn (nI 0) (teT ux un 400 x n) up uq ar nr (teN un 400 n) um ov) H1 → va_D A (wLw x0 x1 x2 x3 x4 m0 m1 m2 m3 m4 m5 qo cI cZ cJ tx pt qt sr tn pn (nI 0) (teT ux un 400 x n) up uq ar nr (teN un 400 n) um ov) → va_S A H0 H1 locs1 → W p l e room_1 s mm args below meth c H1 locs1 cells slots Q (F0 mm (pcn + 3) ls (.int (teR un 400 n) :: rest))) : W p l e room_1 s mm args below meth c H locs cells slots Q (F0 mm pcn ls (.int n :: .long x :: .ref m0 :: rest)) := by
  have hPc := hP.sub (ws' := (wM m0 m1 m2 m3 m4 m5 cI cZ cd ux up uq ar nr un um)) [5, 6, 7, 8, 9, 10] rfl
  have hDc := hD.sub (ws' := (wM m0 m1 m2 m3 m4 m5 cI cZ cd ux up uq ar nr un um)) [5, 6, 7, 8, 9, 10] (by decide) rfl
  have hKc := hK.sub (tys' := tyIZ cI cZ) [0, 1] rfl
  have hFc := va_free (wc := (wM m0 m1 m2 m3 m4 m5 cI cZ cd ux up uq ar nr un um)) hD hS hA [5, 6, 7, 8, 9, 10] rfl
  refine va_calli (va_runV (As := [.long x, .int n]) (rest := rest) ⟨hx, hb, hml, hown, htB⟩ (c_M_text l dC dI m0 m1 m2 m3 m4 m5 cI cZ cd ux up uq ar nr un um H.size ht x n) (cwV 2 htB (gV hml_L_25 hinm_M_text hsel_M_text hini_M hco_M_text) rfl rfl rfl (by decide +kernel) ⟨Nat.le_of_ble_eq_true rfl, Nat.le_of_ble_eq_true rfl⟩) ⟨fun a U g mk q => by obtain ⟨q0, q1, qP, qK, qD⟩ := q; exact ⟨q0, q1, qP, va_K.moved (u := U) (U := U.calling g mk a) (Vm.Alike.refl U.vm) qK, qD⟩, va_recv hKc hPc (ci := 1) (q0 := 0) rfl rfl, fun U hU hW => ⟨rfl, by rw [hU], by rw [hU]; exact hPc, va_K.moved hW.alike hKc, hDc.weaken (fun _ _ _ _ => trivial)⟩⟩ rfl rfl hls rfl (lv_room hre) hd ⟨hce.1, hce.2⟩) hS (fun q _ h => hFc q h) hFc (fun r u t H1 locs1 ht hvm hw hB hz1 hk1 hS1 => ?_)
  obtain ⟨hP1, hK1, hD1⟩ := hB
  rw [ht] at hP1
  obtain ⟨rfl, rfl⟩ := hw
  have hj := va_join (wr := (wX x0 x1 x2 x3 x4 cI cZ tx pt qt sr tn pn ++ [(qo, .inl (cJ, 1, .inr (.inl ov)))])) (w1 := (wM m0 m1 m2 m3 m4 m5 cI cZ (nI 0) (teT ux un 400 x n) up uq ar nr (teN un 400 n) um)) hP hD [5, 6, 7, 8, 9, 10] [0, 1, 2, 3, 4, 11] rfl rfl (by decide) (by decide) hk1 hFc hP1 hD1
  exact kk H1 locs1 (hj.1.sub (ws' := (wLw x0 x1 x2 x3 x4 m0 m1 m2 m3 m4 m5 qo cI cZ cJ tx pt qt sr tn pn (nI 0) (teT ux un 400 x n) up uq ar nr (teN un 400 n) um ov)) [0, 1, 2, 3, 4, 6, 7, 8, 9, 10, 11, 5] rfl) (hj.2.sub (ws' := (wLw x0 x1 x2 x3 x4 m0 m1 m2 m3 m4 m5 qo cI cZ cJ tx pt qt sr tn pn (nI 0) (teT ux un 400 x n) up uq ar nr (teN un 400 n) um ov)) [0, 1, 2, 3, 4, 6, 7, 8, 9, 10, 11, 5] (by decide) rfl) hS1

theorem q_X_pattern {p : Program} {l : Launch} {e : Env} {s : State} {mm : MethodId} {args : Array Value} {below : List Frame} {meth : Method} {c : Code} {H : Heap} {locs : List Loc} {cells slots : Nat} {Q : State → Prop} {pcn : Nat} {ls : Array Slot} {rest : List Value} {dC : Nat → ClassId} {dI : Nat → Nat → Nat} {x0 x1 x2 x3 x4 m0 m1 m2 m3 m4 m5 qo : Nat} {cI cZ cJ : ClassId} {tx pt qt sr : Nat → Int32} {tn pn : Nat} {cd : Int32} {ux up uq ar nr : Nat → Int32} {un um : Nat} {ov : Nat → Int64} {A : Nat → Prop} {H0 : Heap} (hp : pn ≤ 200) {x : Int64} {n qq : Int32} (hx : p.tables.exec = Jvm.exec) (hb : c.code = code) (hml : c.maxLocals = 7) (hown : s.vm.findClass R_L = some mm.cls) (htB : ∀ w ∈ wB, w.before args s = true) (hK : va_K (dC, dI) classes (tyJ cI cZ cJ) s) (hP : va_P (dC, dI) classes (wLw x0 x1 x2 x3 x4 m0 m1 m2 m3 m4 m5 qo cI cZ cJ tx pt qt sr tn pn cd ux up uq ar nr un um ov) H) (hD : va_D A (wLw x0 x1 x2 x3 x4 m0 m1 m2 m3 m4 m5 qo cI cZ cJ tx pt qt sr tn pn cd ux up uq ar nr un um ov)) (hS : va_S A H0 H locs) (hA : ∀ q : Nat, H0.size ≤ q → A q) (hls : ls.size = 7) (hre : (rest.map fun v => v.category).sum ≤ 8) (hce : cells ≤ 1037 ∧ slots ≤ 11016) (hd : decode code pcn = .ok (.invokevirtual 26, 3)) (kk : ∀ (H1 : Heap) (locs1 : List Loc), va_P (dC, dI) classes (wLw x0 x1 x2 x3 x4 m0 m1 m2 m3 m4 m5 qo cI cZ cJ tx (teT pt pn 200 x n) (teQ qt pn 200 qq n) sr tn (teN pn 200 n) cd ux up uq ar nr un um ov) H1 → va_D A (wLw x0 x1 x2 x3 x4 m0 m1 m2 m3 m4 m5 qo cI cZ cJ tx (teT pt pn 200 x n) (teQ qt pn 200 qq n) sr tn (teN pn 200 n) cd ux up uq ar nr un um ov) → va_S A H0 H1 locs1 → W p l e room_1 s mm args below meth c H1 locs1 cells slots Q (F0 mm (pcn + 3) ls (.int (teR pn 200 n) :: rest))) : W p l e room_1 s mm args below meth c H locs cells slots Q (F0 mm pcn ls (.int qq :: .int n :: .long x :: .ref x0 :: rest)) := by
  have hPc := hP.sub (ws' := (wX x0 x1 x2 x3 x4 cI cZ tx pt qt sr tn pn)) [0, 1, 2, 3, 4] rfl
  have hDc := hD.sub (ws' := (wX x0 x1 x2 x3 x4 cI cZ tx pt qt sr tn pn)) [0, 1, 2, 3, 4] (by decide) rfl
  have hKc := hK.sub (tys' := tyIZ cI cZ) [0, 1] rfl
  have hFc := va_free (wc := (wX x0 x1 x2 x3 x4 cI cZ tx pt qt sr tn pn)) hD hS hA [0, 1, 2, 3, 4] rfl
  refine va_calli (va_runV (As := [.long x, .int n, .int qq]) (rest := rest) ⟨hx, hb, hml, hown, htB⟩ (c_X_pattern l dC dI x0 x1 x2 x3 x4 cI cZ tx pt qt sr tn pn H.size hp x n qq) (cwV 3 htB (gV hml_L_26 hinm_X_pattern hsel_X_pattern hini_X hco_X_pattern) rfl rfl rfl (by decide +kernel) ⟨Nat.le_of_ble_eq_true rfl, Nat.le_of_ble_eq_true rfl⟩) ⟨fun a U g mk q => by obtain ⟨q0, q1, qP, qK, qD⟩ := q; exact ⟨q0, q1, qP, va_K.moved (u := U) (U := U.calling g mk a) (Vm.Alike.refl U.vm) qK, qD⟩, va_recv hKc hPc (ci := 0) (q0 := 0) rfl rfl, fun U hU hW => ⟨rfl, by rw [hU], by rw [hU]; exact hPc, va_K.moved hW.alike hKc, hDc.weaken (fun _ _ _ _ => trivial)⟩⟩ rfl rfl hls rfl (lv_room hre) hd ⟨hce.1, hce.2⟩) hS (fun q _ h => hFc q h) hFc (fun r u t H1 locs1 ht hvm hw hB hz1 hk1 hS1 => ?_)
  obtain ⟨hP1, hK1, hD1⟩ := hB
  rw [ht] at hP1
  obtain ⟨rfl, rfl⟩ := hw
  have hj := va_join (wr := (wM m0 m1 m2 m3 m4 m5 cI cZ cd ux up uq ar nr un um ++ [(qo, .inl (cJ, 1, .inr (.inl ov)))])) (w1 := (wX x0 x1 x2 x3 x4 cI cZ tx (teT pt pn 200 x n) (teQ qt pn 200 qq n) sr tn (teN pn 200 n))) hP hD [0, 1, 2, 3, 4] [5, 6, 7, 8, 9, 10, 11] rfl rfl (by decide) (by decide) hk1 hFc hP1 hD1
  exact kk H1 locs1 (hj.1.sub (ws' := (wLw x0 x1 x2 x3 x4 m0 m1 m2 m3 m4 m5 qo cI cZ cJ tx (teT pt pn 200 x n) (teQ qt pn 200 qq n) sr tn (teN pn 200 n) cd ux up uq ar nr un um ov)) [7, 8, 9, 10, 11, 0, 1, 2, 3, 4, 5, 6] rfl) (hj.2.sub (ws' := (wLw x0 x1 x2 x3 x4 m0 m1 m2 m3 m4 m5 qo cI cZ cJ tx (teT pt pn 200 x n) (teQ qt pn 200 qq n) sr tn (teN pn 200 n) cd ux up uq ar nr un um ov)) [7, 8, 9, 10, 11, 0, 1, 2, 3, 4, 5, 6] (by decide) rfl) hS1

theorem q_M_pattern {p : Program} {l : Launch} {e : Env} {s : State} {mm : MethodId} {args : Array Value} {below : List Frame} {meth : Method} {c : Code} {H : Heap} {locs : List Loc} {cells slots : Nat} {Q : State → Prop} {pcn : Nat} {ls : Array Slot} {rest : List Value} {dC : Nat → ClassId} {dI : Nat → Nat → Nat} {x0 x1 x2 x3 x4 m0 m1 m2 m3 m4 m5 qo : Nat} {cI cZ cJ : ClassId} {tx pt qt sr : Nat → Int32} {tn pn : Nat} {cd : Int32} {ux up uq ar nr : Nat → Int32} {un um : Nat} {ov : Nat → Int64} {A : Nat → Prop} {H0 : Heap} (hp : um ≤ 200) {x : Int64} {n qq : Int32} (hx : p.tables.exec = Jvm.exec) (hb : c.code = code) (hml : c.maxLocals = 7) (hown : s.vm.findClass R_L = some mm.cls) (htB : ∀ w ∈ wB, w.before args s = true) (hK : va_K (dC, dI) classes (tyJ cI cZ cJ) s) (hP : va_P (dC, dI) classes (wLw x0 x1 x2 x3 x4 m0 m1 m2 m3 m4 m5 qo cI cZ cJ tx pt qt sr tn pn cd ux up uq ar nr un um ov) H) (hD : va_D A (wLw x0 x1 x2 x3 x4 m0 m1 m2 m3 m4 m5 qo cI cZ cJ tx pt qt sr tn pn cd ux up uq ar nr un um ov)) (hS : va_S A H0 H locs) (hA : ∀ q : Nat, H0.size ≤ q → A q) (hls : ls.size = 7) (hre : (rest.map fun v => v.category).sum ≤ 8) (hce : cells ≤ 1037 ∧ slots ≤ 11016) (hd : decode code pcn = .ok (.invokevirtual 30, 3)) (kk : ∀ (H1 : Heap) (locs1 : List Loc), va_P (dC, dI) classes (wLw x0 x1 x2 x3 x4 m0 m1 m2 m3 m4 m5 qo cI cZ cJ tx pt qt sr tn pn (nI 0) ux (teT up um 200 x n) (teQ uq um 200 qq n) ar nr un (teN um 200 n) ov) H1 → va_D A (wLw x0 x1 x2 x3 x4 m0 m1 m2 m3 m4 m5 qo cI cZ cJ tx pt qt sr tn pn (nI 0) ux (teT up um 200 x n) (teQ uq um 200 qq n) ar nr un (teN um 200 n) ov) → va_S A H0 H1 locs1 → W p l e room_1 s mm args below meth c H1 locs1 cells slots Q (F0 mm (pcn + 3) ls (.int (teR um 200 n) :: rest))) : W p l e room_1 s mm args below meth c H locs cells slots Q (F0 mm pcn ls (.int qq :: .int n :: .long x :: .ref m0 :: rest)) := by
  have hPc := hP.sub (ws' := (wM m0 m1 m2 m3 m4 m5 cI cZ cd ux up uq ar nr un um)) [5, 6, 7, 8, 9, 10] rfl
  have hDc := hD.sub (ws' := (wM m0 m1 m2 m3 m4 m5 cI cZ cd ux up uq ar nr un um)) [5, 6, 7, 8, 9, 10] (by decide) rfl
  have hKc := hK.sub (tys' := tyIZ cI cZ) [0, 1] rfl
  have hFc := va_free (wc := (wM m0 m1 m2 m3 m4 m5 cI cZ cd ux up uq ar nr un um)) hD hS hA [5, 6, 7, 8, 9, 10] rfl
  refine va_calli (va_runV (As := [.long x, .int n, .int qq]) (rest := rest) ⟨hx, hb, hml, hown, htB⟩ (c_M_pattern l dC dI m0 m1 m2 m3 m4 m5 cI cZ cd ux up uq ar nr un um H.size hp x n qq) (cwV 3 htB (gV hml_L_30 hinm_M_pattern hsel_M_pattern hini_M hco_M_pattern) rfl rfl rfl (by decide +kernel) ⟨Nat.le_of_ble_eq_true rfl, Nat.le_of_ble_eq_true rfl⟩) ⟨fun a U g mk q => by obtain ⟨q0, q1, qP, qK, qD⟩ := q; exact ⟨q0, q1, qP, va_K.moved (u := U) (U := U.calling g mk a) (Vm.Alike.refl U.vm) qK, qD⟩, va_recv hKc hPc (ci := 1) (q0 := 0) rfl rfl, fun U hU hW => ⟨rfl, by rw [hU], by rw [hU]; exact hPc, va_K.moved hW.alike hKc, hDc.weaken (fun _ _ _ _ => trivial)⟩⟩ rfl rfl hls rfl (lv_room hre) hd ⟨hce.1, hce.2⟩) hS (fun q _ h => hFc q h) hFc (fun r u t H1 locs1 ht hvm hw hB hz1 hk1 hS1 => ?_)
  obtain ⟨hP1, hK1, hD1⟩ := hB
  rw [ht] at hP1
  obtain ⟨rfl, rfl⟩ := hw
  have hj := va_join (wr := (wX x0 x1 x2 x3 x4 cI cZ tx pt qt sr tn pn ++ [(qo, .inl (cJ, 1, .inr (.inl ov)))])) (w1 := (wM m0 m1 m2 m3 m4 m5 cI cZ (nI 0) ux (teT up um 200 x n) (teQ uq um 200 qq n) ar nr un (teN um 200 n))) hP hD [5, 6, 7, 8, 9, 10] [0, 1, 2, 3, 4, 11] rfl rfl (by decide) (by decide) hk1 hFc hP1 hD1
  exact kk H1 locs1 (hj.1.sub (ws' := (wLw x0 x1 x2 x3 x4 m0 m1 m2 m3 m4 m5 qo cI cZ cJ tx pt qt sr tn pn (nI 0) ux (teT up um 200 x n) (teQ uq um 200 qq n) ar nr un (teN um 200 n) ov)) [0, 1, 2, 3, 4, 6, 7, 8, 9, 10, 11, 5] rfl) (hj.2.sub (ws' := (wLw x0 x1 x2 x3 x4 m0 m1 m2 m3 m4 m5 qo cI cZ cJ tx pt qt sr tn pn (nI 0) ux (teT up um 200 x n) (teQ uq um 200 qq n) ar nr un (teN um 200 n) ov)) [0, 1, 2, 3, 4, 6, 7, 8, 9, 10, 11, 5] (by decide) rfl) hS1

theorem q_X_clear {p : Program} {l : Launch} {e : Env} {s : State} {mm : MethodId} {args : Array Value} {below : List Frame} {meth : Method} {c : Code} {H : Heap} {locs : List Loc} {cells slots : Nat} {Q : State → Prop} {pcn : Nat} {ls : Array Slot} {rest : List Value} {dC : Nat → ClassId} {dI : Nat → Nat → Nat} {x0 x1 x2 x3 x4 m0 m1 m2 m3 m4 m5 qo : Nat} {cI cZ cJ : ClassId} {tx pt qt sr : Nat → Int32} {tn pn : Nat} {cd : Int32} {ux up uq ar nr : Nat → Int32} {un um : Nat} {ov : Nat → Int64} {A : Nat → Prop} {H0 : Heap}  (hx : p.tables.exec = Jvm.exec) (hb : c.code = code) (hml : c.maxLocals = 7) (hown : s.vm.findClass R_L = some mm.cls) (htB : ∀ w ∈ wB, w.before args s = true) (hK : va_K (dC, dI) classes (tyJ cI cZ cJ) s) (hP : va_P (dC, dI) classes (wLw x0 x1 x2 x3 x4 m0 m1 m2 m3 m4 m5 qo cI cZ cJ tx pt qt sr tn pn cd ux up uq ar nr un um ov) H) (hD : va_D A (wLw x0 x1 x2 x3 x4 m0 m1 m2 m3 m4 m5 qo cI cZ cJ tx pt qt sr tn pn cd ux up uq ar nr un um ov)) (hS : va_S A H0 H locs) (hA : ∀ q : Nat, H0.size ≤ q → A q) (hls : ls.size = 7) (hre : (rest.map fun v => v.category).sum ≤ 8) (hce : cells ≤ 1037 ∧ slots ≤ 11016) (hd : decode code pcn = .ok (.invokevirtual 31, 3)) (kk : ∀ (H1 : Heap) (locs1 : List Loc), va_P (dC, dI) classes (wLw x0 x1 x2 x3 x4 m0 m1 m2 m3 m4 m5 qo cI cZ cJ tx pt qt sr 0 0 cd ux up uq ar nr un um ov) H1 → va_D A (wLw x0 x1 x2 x3 x4 m0 m1 m2 m3 m4 m5 qo cI cZ cJ tx pt qt sr 0 0 cd ux up uq ar nr un um ov) → va_S A H0 H1 locs1 → W p l e room_1 s mm args below meth c H1 locs1 cells slots Q (F0 mm (pcn + 3) ls (.int (nI tn) :: rest))) : W p l e room_1 s mm args below meth c H locs cells slots Q (F0 mm pcn ls (.ref x0 :: rest)) := by
  have hPc := hP.sub (ws' := (wX x0 x1 x2 x3 x4 cI cZ tx pt qt sr tn pn)) [0, 1, 2, 3, 4] rfl
  have hDc := hD.sub (ws' := (wX x0 x1 x2 x3 x4 cI cZ tx pt qt sr tn pn)) [0, 1, 2, 3, 4] (by decide) rfl
  have hKc := hK.sub (tys' := tyIZ cI cZ) [0, 1] rfl
  have hFc := va_free (wc := (wX x0 x1 x2 x3 x4 cI cZ tx pt qt sr tn pn)) hD hS hA [0, 1, 2, 3, 4] rfl
  refine va_calli (va_runV (As := []) (rest := rest) ⟨hx, hb, hml, hown, htB⟩ (c_X_clear l dC dI x0 x1 x2 x3 x4 cI cZ tx pt qt sr tn pn H.size ) (cwV 0 htB (gV hml_L_31 hinm_X_clear hsel_X_clear hini_X hco_X_clear) rfl rfl rfl (by decide +kernel) ⟨Nat.le_of_ble_eq_true rfl, Nat.le_of_ble_eq_true rfl⟩) ⟨fun a U g mk q => by obtain ⟨q0, q1, qP, qK, qD⟩ := q; exact ⟨q0, q1, qP, va_K.moved (u := U) (U := U.calling g mk a) (Vm.Alike.refl U.vm) qK, qD⟩, va_recv hKc hPc (ci := 0) (q0 := 0) rfl rfl, fun U hU hW => ⟨rfl, by rw [hU], by rw [hU]; exact hPc, va_K.moved hW.alike hKc, hDc.weaken (fun _ _ _ _ => trivial)⟩⟩ rfl rfl hls rfl (lv_room hre) hd ⟨hce.1, hce.2⟩) hS (fun q _ h => hFc q h) hFc (fun r u t H1 locs1 ht hvm hw hB hz1 hk1 hS1 => ?_)
  obtain ⟨hP1, hK1, hD1⟩ := hB
  rw [ht] at hP1
  obtain rfl := hw
  have hj := va_join (wr := (wM m0 m1 m2 m3 m4 m5 cI cZ cd ux up uq ar nr un um ++ [(qo, .inl (cJ, 1, .inr (.inl ov)))])) (w1 := (wX x0 x1 x2 x3 x4 cI cZ tx pt qt sr 0 0)) hP hD [0, 1, 2, 3, 4] [5, 6, 7, 8, 9, 10, 11] rfl rfl (by decide) (by decide) hk1 hFc hP1 hD1
  exact kk H1 locs1 (hj.1.sub (ws' := (wLw x0 x1 x2 x3 x4 m0 m1 m2 m3 m4 m5 qo cI cZ cJ tx pt qt sr 0 0 cd ux up uq ar nr un um ov)) [7, 8, 9, 10, 11, 0, 1, 2, 3, 4, 5, 6] rfl) (hj.2.sub (ws' := (wLw x0 x1 x2 x3 x4 m0 m1 m2 m3 m4 m5 qo cI cZ cJ tx pt qt sr 0 0 cd ux up uq ar nr un um ov)) [7, 8, 9, 10, 11, 0, 1, 2, 3, 4, 5, 6] (by decide) rfl) hS1

theorem q_M_clear {p : Program} {l : Launch} {e : Env} {s : State} {mm : MethodId} {args : Array Value} {below : List Frame} {meth : Method} {c : Code} {H : Heap} {locs : List Loc} {cells slots : Nat} {Q : State → Prop} {pcn : Nat} {ls : Array Slot} {rest : List Value} {dC : Nat → ClassId} {dI : Nat → Nat → Nat} {x0 x1 x2 x3 x4 m0 m1 m2 m3 m4 m5 qo : Nat} {cI cZ cJ : ClassId} {tx pt qt sr : Nat → Int32} {tn pn : Nat} {cd : Int32} {ux up uq ar nr : Nat → Int32} {un um : Nat} {ov : Nat → Int64} {A : Nat → Prop} {H0 : Heap}  (hx : p.tables.exec = Jvm.exec) (hb : c.code = code) (hml : c.maxLocals = 7) (hown : s.vm.findClass R_L = some mm.cls) (htB : ∀ w ∈ wB, w.before args s = true) (hK : va_K (dC, dI) classes (tyJ cI cZ cJ) s) (hP : va_P (dC, dI) classes (wLw x0 x1 x2 x3 x4 m0 m1 m2 m3 m4 m5 qo cI cZ cJ tx pt qt sr tn pn cd ux up uq ar nr un um ov) H) (hD : va_D A (wLw x0 x1 x2 x3 x4 m0 m1 m2 m3 m4 m5 qo cI cZ cJ tx pt qt sr tn pn cd ux up uq ar nr un um ov)) (hS : va_S A H0 H locs) (hA : ∀ q : Nat, H0.size ≤ q → A q) (hls : ls.size = 7) (hre : (rest.map fun v => v.category).sum ≤ 8) (hce : cells ≤ 1037 ∧ slots ≤ 11016) (hd : decode code pcn = .ok (.invokevirtual 35, 3)) (kk : ∀ (H1 : Heap) (locs1 : List Loc), va_P (dC, dI) classes (wLw x0 x1 x2 x3 x4 m0 m1 m2 m3 m4 m5 qo cI cZ cJ tx pt qt sr tn pn (nI 0) ux up uq ar nr 0 0 ov) H1 → va_D A (wLw x0 x1 x2 x3 x4 m0 m1 m2 m3 m4 m5 qo cI cZ cJ tx pt qt sr tn pn (nI 0) ux up uq ar nr 0 0 ov) → va_S A H0 H1 locs1 → W p l e room_1 s mm args below meth c H1 locs1 cells slots Q (F0 mm (pcn + 3) ls (.int (nI un) :: rest))) : W p l e room_1 s mm args below meth c H locs cells slots Q (F0 mm pcn ls (.ref m0 :: rest)) := by
  have hPc := hP.sub (ws' := (wM m0 m1 m2 m3 m4 m5 cI cZ cd ux up uq ar nr un um)) [5, 6, 7, 8, 9, 10] rfl
  have hDc := hD.sub (ws' := (wM m0 m1 m2 m3 m4 m5 cI cZ cd ux up uq ar nr un um)) [5, 6, 7, 8, 9, 10] (by decide) rfl
  have hKc := hK.sub (tys' := tyIZ cI cZ) [0, 1] rfl
  have hFc := va_free (wc := (wM m0 m1 m2 m3 m4 m5 cI cZ cd ux up uq ar nr un um)) hD hS hA [5, 6, 7, 8, 9, 10] rfl
  refine va_calli (va_runV (As := []) (rest := rest) ⟨hx, hb, hml, hown, htB⟩ (c_M_clear l dC dI m0 m1 m2 m3 m4 m5 cI cZ cd ux up uq ar nr un um H.size ) (cwV 0 htB (gV hml_L_35 hinm_M_clear hsel_M_clear hini_M hco_M_clear) rfl rfl rfl (by decide +kernel) ⟨Nat.le_of_ble_eq_true rfl, Nat.le_of_ble_eq_true rfl⟩) ⟨fun a U g mk q => by obtain ⟨q0, q1, qP, qK, qD⟩ := q; exact ⟨q0, q1, qP, va_K.moved (u := U) (U := U.calling g mk a) (Vm.Alike.refl U.vm) qK, qD⟩, va_recv hKc hPc (ci := 1) (q0 := 0) rfl rfl, fun U hU hW => ⟨rfl, by rw [hU], by rw [hU]; exact hPc, va_K.moved hW.alike hKc, hDc.weaken (fun _ _ _ _ => trivial)⟩⟩ rfl rfl hls rfl (lv_room hre) hd ⟨hce.1, hce.2⟩) hS (fun q _ h => hFc q h) hFc (fun r u t H1 locs1 ht hvm hw hB hz1 hk1 hS1 => ?_)
  obtain ⟨hP1, hK1, hD1⟩ := hB
  rw [ht] at hP1
  obtain rfl := hw
  have hj := va_join (wr := (wX x0 x1 x2 x3 x4 cI cZ tx pt qt sr tn pn ++ [(qo, .inl (cJ, 1, .inr (.inl ov)))])) (w1 := (wM m0 m1 m2 m3 m4 m5 cI cZ (nI 0) ux up uq ar nr 0 0)) hP hD [5, 6, 7, 8, 9, 10] [0, 1, 2, 3, 4, 11] rfl rfl (by decide) (by decide) hk1 hFc hP1 hD1
  exact kk H1 locs1 (hj.1.sub (ws' := (wLw x0 x1 x2 x3 x4 m0 m1 m2 m3 m4 m5 qo cI cZ cJ tx pt qt sr tn pn (nI 0) ux up uq ar nr 0 0 ov)) [0, 1, 2, 3, 4, 6, 7, 8, 9, 10, 11, 5] rfl) (hj.2.sub (ws' := (wLw x0 x1 x2 x3 x4 m0 m1 m2 m3 m4 m5 qo cI cZ cJ tx pt qt sr tn pn (nI 0) ux up uq ar nr 0 0 ov)) [0, 1, 2, 3, 4, 6, 7, 8, 9, 10, 11, 5] (by decide) rfl) hS1

theorem q_X_matches {p : Program} {l : Launch} {e : Env} {s : State} {mm : MethodId} {args : Array Value} {below : List Frame} {meth : Method} {c : Code} {H : Heap} {locs : List Loc} {cells slots : Nat} {Q : State → Prop} {pcn : Nat} {ls : Array Slot} {rest : List Value} {dC : Nat → ClassId} {dI : Nat → Nat → Nat} {x0 x1 x2 x3 x4 m0 m1 m2 m3 m4 m5 qo : Nat} {cI cZ cJ : ClassId} {tx pt qt sr : Nat → Int32} {tn pn : Nat} {cd : Int32} {ux up uq ar nr : Nat → Int32} {un um : Nat} {ov : Nat → Int64} {A : Nat → Prop} {H0 : Heap} (hp : pn ≤ 200) (ht : tn ≤ 400) (hx : p.tables.exec = Jvm.exec) (hb : c.code = code) (hml : c.maxLocals = 7) (hown : s.vm.findClass R_L = some mm.cls) (htB : ∀ w ∈ wB, w.before args s = true) (hK : va_K (dC, dI) classes (tyJ cI cZ cJ) s) (hP : va_P (dC, dI) classes (wLw x0 x1 x2 x3 x4 m0 m1 m2 m3 m4 m5 qo cI cZ cJ tx pt qt sr tn pn cd ux up uq ar nr un um ov) H) (hD : va_D A (wLw x0 x1 x2 x3 x4 m0 m1 m2 m3 m4 m5 qo cI cZ cJ tx pt qt sr tn pn cd ux up uq ar nr un um ov)) (hS : va_S A H0 H locs) (hA : ∀ q : Nat, H0.size ≤ q → A q) (hls : ls.size = 7) (hre : (rest.map fun v => v.category).sum ≤ 8) (hce : cells ≤ 1037 ∧ slots ≤ 11016) (hd : decode code pcn = .ok (.invokevirtual 36, 3)) (kk : ∀ (u : Nat → Int32) (H1 : Heap) (locs1 : List Loc), va_P (dC, dI) classes (wLw x0 x1 x2 x3 x4 m0 m1 m2 m3 m4 m5 qo cI cZ cJ tx pt qt u tn pn cd ux up uq ar nr un um ov) H1 → va_D A (wLw x0 x1 x2 x3 x4 m0 m1 m2 m3 m4 m5 qo cI cZ cJ tx pt qt u tn pn cd ux up uq ar nr un um ov) → va_S A H0 H1 locs1 → W p l e room_1 s mm args below meth c H1 locs1 cells slots Q (F0 mm (pcn + 3) ls (.int (bI (mX tx pt qt pn 0 tn)) :: rest))) : W p l e room_1 s mm args below meth c H locs cells slots Q (F0 mm pcn ls (.ref x0 :: rest)) := by
  have hPc := hP.sub (ws' := (wX x0 x1 x2 x3 x4 cI cZ tx pt qt sr tn pn)) [0, 1, 2, 3, 4] rfl
  have hDc := hD.sub (ws' := (wX x0 x1 x2 x3 x4 cI cZ tx pt qt sr tn pn)) [0, 1, 2, 3, 4] (by decide) rfl
  have hKc := hK.sub (tys' := tyIZ cI cZ) [0, 1] rfl
  have hFc := va_free (wc := (wX x0 x1 x2 x3 x4 cI cZ tx pt qt sr tn pn)) hD hS hA [0, 1, 2, 3, 4] rfl
  refine va_calli (va_runV (As := []) (rest := rest) ⟨hx, hb, hml, hown, htB⟩ (c_X_matches l dC dI x0 x1 x2 x3 x4 cI cZ tx pt qt sr tn pn H.size hp ht) (cwV 0 htB (gV hml_L_36 hinm_X_matches hsel_X_matches hini_X hco_X_matches) rfl rfl rfl (by decide +kernel) ⟨Nat.le_of_ble_eq_true rfl, Nat.le_of_ble_eq_true rfl⟩) ⟨fun a U g mk q => by obtain ⟨q0, q1, qP, qK, qD⟩ := q; exact ⟨q0, q1, qP, va_K.moved (u := U) (U := U.calling g mk a) (Vm.Alike.refl U.vm) qK, qD⟩, va_recv hKc hPc (ci := 0) (q0 := 0) rfl rfl, fun U hU hW => ⟨rfl, by rw [hU], by rw [hU]; exact hPc, va_K.moved hW.alike hKc, hDc.weaken (fun _ _ _ _ => trivial)⟩⟩ rfl rfl hls rfl (lv_room hre) hd ⟨hce.1, hce.2⟩) hS (fun q _ h => hFc q h) hFc (fun r u t H1 locs1 ht hvm hw hB hz1 hk1 hS1 => ?_)
  obtain ⟨hP1, hK1, hD1⟩ := hB
  rw [ht] at hP1
  obtain rfl := hw
  have hj := va_join (wr := (wM m0 m1 m2 m3 m4 m5 cI cZ cd ux up uq ar nr un um ++ [(qo, .inl (cJ, 1, .inr (.inl ov)))])) (w1 := (wX x0 x1 x2 x3 x4 cI cZ tx pt qt u tn pn)) hP hD [0, 1, 2, 3, 4] [5, 6, 7, 8, 9, 10, 11] rfl rfl (by decide) (by decide) hk1 hFc hP1 hD1
  exact kk u H1 locs1 (hj.1.sub (ws' := (wLw x0 x1 x2 x3 x4 m0 m1 m2 m3 m4 m5 qo cI cZ cJ tx pt qt u tn pn cd ux up uq ar nr un um ov)) [7, 8, 9, 10, 11, 0, 1, 2, 3, 4, 5, 6] rfl) (hj.2.sub (ws' := (wLw x0 x1 x2 x3 x4 m0 m1 m2 m3 m4 m5 qo cI cZ cJ tx pt qt u tn pn cd ux up uq ar nr un um ov)) [7, 8, 9, 10, 11, 0, 1, 2, 3, 4, 5, 6] (by decide) rfl) hS1

theorem q_M_matches {p : Program} {l : Launch} {e : Env} {s : State} {mm : MethodId} {args : Array Value} {below : List Frame} {meth : Method} {c : Code} {H : Heap} {locs : List Loc} {cells slots : Nat} {Q : State → Prop} {pcn : Nat} {ls : Array Slot} {rest : List Value} {dC : Nat → ClassId} {dI : Nat → Nat → Nat} {x0 x1 x2 x3 x4 m0 m1 m2 m3 m4 m5 qo : Nat} {cI cZ cJ : ClassId} {tx pt qt sr : Nat → Int32} {tn pn : Nat} {cd : Int32} {ux up uq ar nr : Nat → Int32} {un um : Nat} {ov : Nat → Int64} {A : Nat → Prop} {H0 : Heap} (hp : um ≤ 200) (ht : un ≤ 400) (hx : p.tables.exec = Jvm.exec) (hb : c.code = code) (hml : c.maxLocals = 7) (hown : s.vm.findClass R_L = some mm.cls) (htB : ∀ w ∈ wB, w.before args s = true) (hK : va_K (dC, dI) classes (tyJ cI cZ cJ) s) (hP : va_P (dC, dI) classes (wLw x0 x1 x2 x3 x4 m0 m1 m2 m3 m4 m5 qo cI cZ cJ tx pt qt sr tn pn cd ux up uq ar nr un um ov) H) (hD : va_D A (wLw x0 x1 x2 x3 x4 m0 m1 m2 m3 m4 m5 qo cI cZ cJ tx pt qt sr tn pn cd ux up uq ar nr un um ov)) (hS : va_S A H0 H locs) (hA : ∀ q : Nat, H0.size ≤ q → A q) (hls : ls.size = 7) (hre : (rest.map fun v => v.category).sum ≤ 8) (hce : cells ≤ 1037 ∧ slots ≤ 11016) (hd : decode code pcn = .ok (.invokevirtual 40, 3)) (kk : ∀ (u : (Nat → Int32) × (Nat → Int32)) (H1 : Heap) (locs1 : List Loc), va_P (dC, dI) classes (wLw x0 x1 x2 x3 x4 m0 m1 m2 m3 m4 m5 qo cI cZ cJ tx pt qt sr tn pn (nI 0) ux up uq u.1 u.2 un um ov) H1 → va_D A (wLw x0 x1 x2 x3 x4 m0 m1 m2 m3 m4 m5 qo cI cZ cJ tx pt qt sr tn pn (nI 0) ux up uq u.1 u.2 un um ov) → va_S A H0 H1 locs1 → W p l e room_1 s mm args below meth c H1 locs1 cells slots Q (F0 mm (pcn + 3) ls (.int (bI (mM ux up uq um 0 un un)) :: rest))) : W p l e room_1 s mm args below meth c H locs cells slots Q (F0 mm pcn ls (.ref m0 :: rest)) := by
  have hPc := hP.sub (ws' := (wM m0 m1 m2 m3 m4 m5 cI cZ cd ux up uq ar nr un um)) [5, 6, 7, 8, 9, 10] rfl
  have hDc := hD.sub (ws' := (wM m0 m1 m2 m3 m4 m5 cI cZ cd ux up uq ar nr un um)) [5, 6, 7, 8, 9, 10] (by decide) rfl
  have hKc := hK.sub (tys' := tyIZ cI cZ) [0, 1] rfl
  have hFc := va_free (wc := (wM m0 m1 m2 m3 m4 m5 cI cZ cd ux up uq ar nr un um)) hD hS hA [5, 6, 7, 8, 9, 10] rfl
  refine va_calli (va_runV (As := []) (rest := rest) ⟨hx, hb, hml, hown, htB⟩ (c_M_matches l dC dI m0 m1 m2 m3 m4 m5 cI cZ cd ux up uq ar nr un um H.size hp ht) (cwV 0 htB (gV hml_L_40 hinm_M_matches hsel_M_matches hini_M hco_M_matches) rfl rfl rfl (by decide +kernel) ⟨Nat.le_of_ble_eq_true rfl, Nat.le_of_ble_eq_true rfl⟩) ⟨fun a U g mk q => by obtain ⟨q0, q1, qP, qK, qD⟩ := q; exact ⟨q0, q1, qP, va_K.moved (u := U) (U := U.calling g mk a) (Vm.Alike.refl U.vm) qK, qD⟩, va_recv hKc hPc (ci := 1) (q0 := 0) rfl rfl, fun U hU hW => ⟨rfl, by rw [hU], by rw [hU]; exact hPc, va_K.moved hW.alike hKc, hDc.weaken (fun _ _ _ _ => trivial)⟩⟩ rfl rfl hls rfl (lv_room hre) hd ⟨hce.1, hce.2⟩) hS (fun q _ h => hFc q h) hFc (fun r u t H1 locs1 ht hvm hw hB hz1 hk1 hS1 => ?_)
  obtain ⟨hP1, hK1, hD1⟩ := hB
  rw [ht] at hP1
  obtain rfl := hw
  have hj := va_join (wr := (wX x0 x1 x2 x3 x4 cI cZ tx pt qt sr tn pn ++ [(qo, .inl (cJ, 1, .inr (.inl ov)))])) (w1 := (wM m0 m1 m2 m3 m4 m5 cI cZ (nI 0) ux up uq u.1 u.2 un um)) hP hD [5, 6, 7, 8, 9, 10] [0, 1, 2, 3, 4, 11] rfl rfl (by decide) (by decide) hk1 hFc hP1 hD1
  exact kk u H1 locs1 (hj.1.sub (ws' := (wLw x0 x1 x2 x3 x4 m0 m1 m2 m3 m4 m5 qo cI cZ cJ tx pt qt sr tn pn (nI 0) ux up uq u.1 u.2 un um ov)) [0, 1, 2, 3, 4, 6, 7, 8, 9, 10, 11, 5] rfl) (hj.2.sub (ws' := (wLw x0 x1 x2 x3 x4 m0 m1 m2 m3 m4 m5 qo cI cZ cJ tx pt qt sr tn pn (nI 0) ux up uq u.1 u.2 un um ov)) [0, 1, 2, 3, 4, 6, 7, 8, 9, 10, 11, 5] (by decide) rfl) hS1

theorem q_X_cut {p : Program} {l : Launch} {e : Env} {s : State} {mm : MethodId} {args : Array Value} {below : List Frame} {meth : Method} {c : Code} {H : Heap} {locs : List Loc} {cells slots : Nat} {Q : State → Prop} {pcn : Nat} {ls : Array Slot} {rest : List Value} {dC : Nat → ClassId} {dI : Nat → Nat → Nat} {x0 x1 x2 x3 x4 m0 m1 m2 m3 m4 m5 qo : Nat} {cI cZ cJ : ClassId} {tx pt qt sr : Nat → Int32} {tn pn : Nat} {cd : Int32} {ux up uq ar nr : Nat → Int32} {un um : Nat} {ov : Nat → Int64} {A : Nat → Prop} {H0 : Heap} (hp : pn ≤ 200) (ht : tn ≤ 400) {en lg : Bool} (hx : p.tables.exec = Jvm.exec) (hb : c.code = code) (hml : c.maxLocals = 7) (hown : s.vm.findClass R_L = some mm.cls) (htB : ∀ w ∈ wB, w.before args s = true) (hK : va_K (dC, dI) classes (tyJ cI cZ cJ) s) (hP : va_P (dC, dI) classes (wLw x0 x1 x2 x3 x4 m0 m1 m2 m3 m4 m5 qo cI cZ cJ tx pt qt sr tn pn cd ux up uq ar nr un um ov) H) (hD : va_D A (wLw x0 x1 x2 x3 x4 m0 m1 m2 m3 m4 m5 qo cI cZ cJ tx pt qt sr tn pn cd ux up uq ar nr un um ov)) (hS : va_S A H0 H locs) (hA : ∀ q : Nat, H0.size ≤ q → A q) (hls : ls.size = 7) (hre : (rest.map fun v => v.category).sum ≤ 8) (hce : cells ≤ 1037 ∧ slots ≤ 11016) (hd : decode code pcn = .ok (.invokevirtual 50, 3)) (kk : ∀ (u : Nat → Int32) (H1 : Heap) (locs1 : List Loc), va_P (dC, dI) classes (wLw x0 x1 x2 x3 x4 m0 m1 m2 m3 m4 m5 qo cI cZ cJ tx pt qt u tn pn cd ux up uq ar nr un um ov) H1 → va_D A (wLw x0 x1 x2 x3 x4 m0 m1 m2 m3 m4 m5 qo cI cZ cJ tx pt qt u tn pn cd ux up uq ar nr un um ov) → va_S A H0 H1 locs1 → W p l e room_1 s mm args below meth c H1 locs1 cells slots Q (F0 mm (pcn + 3) ls (.int (if en = true then eI tn (rdp tx pt qt pn lg 0 pn 0 ga tn) else oI (fnd (fun j => mX tx pt qt pn 0 j) lg (tn + 1))) :: rest))) : W p l e room_1 s mm args below meth c H locs cells slots Q (F0 mm pcn ls (.int (bI lg) :: .int (bI en) :: .ref x0 :: rest)) := by
  have hPc := hP.sub (ws' := (wX x0 x1 x2 x3 x4 cI cZ tx pt qt sr tn pn)) [0, 1, 2, 3, 4] rfl
  have hDc := hD.sub (ws' := (wX x0 x1 x2 x3 x4 cI cZ tx pt qt sr tn pn)) [0, 1, 2, 3, 4] (by decide) rfl
  have hKc := hK.sub (tys' := tyIZ cI cZ) [0, 1] rfl
  have hFc := va_free (wc := (wX x0 x1 x2 x3 x4 cI cZ tx pt qt sr tn pn)) hD hS hA [0, 1, 2, 3, 4] rfl
  refine va_calli (va_runV (As := [.int (bI en), .int (bI lg)]) (rest := rest) ⟨hx, hb, hml, hown, htB⟩ (c_X_cut l dC dI x0 x1 x2 x3 x4 cI cZ tx pt qt sr tn pn H.size hp ht en lg) (cwV 2 htB (gV hml_L_50 hinm_X_cut hsel_X_cut hini_X hco_X_cut) rfl rfl rfl (by decide +kernel) ⟨Nat.le_of_ble_eq_true rfl, Nat.le_of_ble_eq_true rfl⟩) ⟨fun a U g mk q => by obtain ⟨q0, q1, qP, qK, qD⟩ := q; exact ⟨q0, q1, qP, va_K.moved (u := U) (U := U.calling g mk a) (Vm.Alike.refl U.vm) qK, qD⟩, va_recv hKc hPc (ci := 0) (q0 := 0) rfl rfl, fun U hU hW => ⟨rfl, by rw [hU], by rw [hU]; exact hPc, va_K.moved hW.alike hKc, hDc.weaken (fun _ _ _ _ => trivial)⟩⟩ rfl rfl hls rfl (lv_room hre) hd ⟨hce.1, hce.2⟩) hS (fun q _ h => hFc q h) hFc (fun r u t H1 locs1 ht hvm hw hB hz1 hk1 hS1 => ?_)
  obtain ⟨hP1, hK1, hD1⟩ := hB
  rw [ht] at hP1
  obtain rfl := hw
  have hj := va_join (wr := (wM m0 m1 m2 m3 m4 m5 cI cZ cd ux up uq ar nr un um ++ [(qo, .inl (cJ, 1, .inr (.inl ov)))])) (w1 := (wX x0 x1 x2 x3 x4 cI cZ tx pt qt u tn pn)) hP hD [0, 1, 2, 3, 4] [5, 6, 7, 8, 9, 10, 11] rfl rfl (by decide) (by decide) hk1 hFc hP1 hD1
  exact kk u H1 locs1 (hj.1.sub (ws' := (wLw x0 x1 x2 x3 x4 m0 m1 m2 m3 m4 m5 qo cI cZ cJ tx pt qt u tn pn cd ux up uq ar nr un um ov)) [7, 8, 9, 10, 11, 0, 1, 2, 3, 4, 5, 6] rfl) (hj.2.sub (ws' := (wLw x0 x1 x2 x3 x4 m0 m1 m2 m3 m4 m5 qo cI cZ cJ tx pt qt u tn pn cd ux up uq ar nr un um ov)) [7, 8, 9, 10, 11, 0, 1, 2, 3, 4, 5, 6] (by decide) rfl) hS1

theorem q_M_cut {p : Program} {l : Launch} {e : Env} {s : State} {mm : MethodId} {args : Array Value} {below : List Frame} {meth : Method} {c : Code} {H : Heap} {locs : List Loc} {cells slots : Nat} {Q : State → Prop} {pcn : Nat} {ls : Array Slot} {rest : List Value} {dC : Nat → ClassId} {dI : Nat → Nat → Nat} {x0 x1 x2 x3 x4 m0 m1 m2 m3 m4 m5 qo : Nat} {cI cZ cJ : ClassId} {tx pt qt sr : Nat → Int32} {tn pn : Nat} {cd : Int32} {ux up uq ar nr : Nat → Int32} {un um : Nat} {ov : Nat → Int64} {A : Nat → Prop} {H0 : Heap} (hp : um ≤ 200) (ht : un ≤ 400) {en lg : Bool} (hx : p.tables.exec = Jvm.exec) (hb : c.code = code) (hml : c.maxLocals = 7) (hown : s.vm.findClass R_L = some mm.cls) (htB : ∀ w ∈ wB, w.before args s = true) (hK : va_K (dC, dI) classes (tyJ cI cZ cJ) s) (hP : va_P (dC, dI) classes (wLw x0 x1 x2 x3 x4 m0 m1 m2 m3 m4 m5 qo cI cZ cJ tx pt qt sr tn pn cd ux up uq ar nr un um ov) H) (hD : va_D A (wLw x0 x1 x2 x3 x4 m0 m1 m2 m3 m4 m5 qo cI cZ cJ tx pt qt sr tn pn cd ux up uq ar nr un um ov)) (hS : va_S A H0 H locs) (hA : ∀ q : Nat, H0.size ≤ q → A q) (hls : ls.size = 7) (hre : (rest.map fun v => v.category).sum ≤ 8) (hce : cells ≤ 1037 ∧ slots ≤ 11016) (hd : decode code pcn = .ok (.invokevirtual 54, 3)) (kk : ∀ (u : (Nat → Int32) × (Nat → Int32)) (H1 : Heap) (locs1 : List Loc), va_P (dC, dI) classes (wLw x0 x1 x2 x3 x4 m0 m1 m2 m3 m4 m5 qo cI cZ cJ tx pt qt sr tn pn (nI 0) ux up uq u.1 u.2 un um ov) H1 → va_D A (wLw x0 x1 x2 x3 x4 m0 m1 m2 m3 m4 m5 qo cI cZ cJ tx pt qt sr tn pn (nI 0) ux up uq u.1 u.2 un um ov) → va_S A H0 H1 locs1 → W p l e room_1 s mm args below meth c H1 locs1 cells slots Q (F0 mm (pcn + 3) ls (.int (if en = true then oI (fnd (fun z => mM ux up uq um (un - z) un un) lg (un + 1)) else oI (fnd (fun z => mM ux up uq um 0 un z) lg (un + 1))) :: rest))) : W p l e room_1 s mm args below meth c H locs cells slots Q (F0 mm pcn ls (.int (bI lg) :: .int (bI en) :: .ref m0 :: rest)) := by
  have hPc := hP.sub (ws' := (wM m0 m1 m2 m3 m4 m5 cI cZ cd ux up uq ar nr un um)) [5, 6, 7, 8, 9, 10] rfl
  have hDc := hD.sub (ws' := (wM m0 m1 m2 m3 m4 m5 cI cZ cd ux up uq ar nr un um)) [5, 6, 7, 8, 9, 10] (by decide) rfl
  have hKc := hK.sub (tys' := tyIZ cI cZ) [0, 1] rfl
  have hFc := va_free (wc := (wM m0 m1 m2 m3 m4 m5 cI cZ cd ux up uq ar nr un um)) hD hS hA [5, 6, 7, 8, 9, 10] rfl
  refine va_calli (va_runV (As := [.int (bI en), .int (bI lg)]) (rest := rest) ⟨hx, hb, hml, hown, htB⟩ (c_M_cut l dC dI m0 m1 m2 m3 m4 m5 cI cZ cd ux up uq ar nr un um H.size hp ht en lg) (cwV 2 htB (gV hml_L_54 hinm_M_cut hsel_M_cut hini_M hco_M_cut) rfl rfl rfl (by decide +kernel) ⟨Nat.le_of_ble_eq_true rfl, Nat.le_of_ble_eq_true rfl⟩) ⟨fun a U g mk q => by obtain ⟨q0, q1, qP, qK, qD⟩ := q; exact ⟨q0, q1, qP, va_K.moved (u := U) (U := U.calling g mk a) (Vm.Alike.refl U.vm) qK, qD⟩, va_recv hKc hPc (ci := 1) (q0 := 0) rfl rfl, fun U hU hW => ⟨rfl, by rw [hU], by rw [hU]; exact hPc, va_K.moved hW.alike hKc, hDc.weaken (fun _ _ _ _ => trivial)⟩⟩ rfl rfl hls rfl (lv_room hre) hd ⟨hce.1, hce.2⟩) hS (fun q _ h => hFc q h) hFc (fun r u t H1 locs1 ht hvm hw hB hz1 hk1 hS1 => ?_)
  obtain ⟨hP1, hK1, hD1⟩ := hB
  rw [ht] at hP1
  obtain rfl := hw
  have hj := va_join (wr := (wX x0 x1 x2 x3 x4 cI cZ tx pt qt sr tn pn ++ [(qo, .inl (cJ, 1, .inr (.inl ov)))])) (w1 := (wM m0 m1 m2 m3 m4 m5 cI cZ (nI 0) ux up uq u.1 u.2 un um)) hP hD [5, 6, 7, 8, 9, 10] [0, 1, 2, 3, 4, 11] rfl rfl (by decide) (by decide) hk1 hFc hP1 hD1
  exact kk u H1 locs1 (hj.1.sub (ws' := (wLw x0 x1 x2 x3 x4 m0 m1 m2 m3 m4 m5 qo cI cZ cJ tx pt qt sr tn pn (nI 0) ux up uq u.1 u.2 un um ov)) [0, 1, 2, 3, 4, 6, 7, 8, 9, 10, 11, 5] rfl) (hj.2.sub (ws' := (wLw x0 x1 x2 x3 x4 m0 m1 m2 m3 m4 m5 qo cI cZ cJ tx pt qt sr tn pn (nI 0) ux up uq u.1 u.2 un um ov)) [0, 1, 2, 3, 4, 6, 7, 8, 9, 10, 11, 5] (by decide) rfl) hS1

theorem q_M_part {p : Program} {l : Launch} {e : Env} {s : State} {mm : MethodId} {args : Array Value} {below : List Frame} {meth : Method} {c : Code} {H : Heap} {locs : List Loc} {cells slots : Nat} {Q : State → Prop} {pcn : Nat} {ls : Array Slot} {rest : List Value} {dC : Nat → ClassId} {dI : Nat → Nat → Nat} {x0 x1 x2 x3 x4 m0 m1 m2 m3 m4 m5 qo : Nat} {cI cZ cJ : ClassId} {tx pt qt sr : Nat → Int32} {tn pn : Nat} {cd : Int32} {ux up uq ar nr : Nat → Int32} {un um : Nat} {ov : Nat → Int64} {A : Nat → Prop} {H0 : Heap} (hp : um ≤ 200) (ht : un ≤ 400) {p0 p1 : Int32} (hx : p.tables.exec = Jvm.exec) (hb : c.code = code) (hml : c.maxLocals = 7) (hown : s.vm.findClass R_L = some mm.cls) (htB : ∀ w ∈ wB, w.before args s = true) (hK : va_K (dC, dI) classes (tyJ cI cZ cJ) s) (hP : va_P (dC, dI) classes (wLw x0 x1 x2 x3 x4 m0 m1 m2 m3 m4 m5 qo cI cZ cJ tx pt qt sr tn pn cd ux up uq ar nr un um ov) H) (hD : va_D A (wLw x0 x1 x2 x3 x4 m0 m1 m2 m3 m4 m5 qo cI cZ cJ tx pt qt sr tn pn cd ux up uq ar nr un um ov)) (hS : va_S A H0 H locs) (hA : ∀ q : Nat, H0.size ≤ q → A q) (hls : ls.size = 7) (hre : (rest.map fun v => v.category).sum ≤ 8) (hce : cells ≤ 1037 ∧ slots ≤ 11016) (hd : decode code pcn = .ok (.invokevirtual 46, 3)) (kk : ∀ (u : Int32 × (Nat → Int32) × (Nat → Int32)) (H1 : Heap) (locs1 : List Loc), va_P (dC, dI) classes (wLw x0 x1 x2 x3 x4 m0 m1 m2 m3 m4 m5 qo cI cZ cJ tx pt qt sr tn pn (if okp un p0 p1 = true then nI 0 else nI 1) ux up uq u.2.1 u.2.2 un um ov) H1 → va_D A (wLw x0 x1 x2 x3 x4 m0 m1 m2 m3 m4 m5 qo cI cZ cJ tx pt qt sr tn pn (if okp un p0 p1 = true then nI 0 else nI 1) ux up uq u.2.1 u.2.2 un um ov) → va_S A H0 H1 locs1 → W p l e room_1 s mm args below meth c H1 locs1 cells slots Q (F0 mm (pcn + 3) ls (.int (if okp un p0 p1 = true then bI (mM ux up uq um p0.toNatClampNeg p1.toNatClampNeg p1.toNatClampNeg) else nI 0) :: rest))) : W p l e room_1 s mm args below meth c H locs cells slots Q (F0 mm pcn ls (.int p1 :: .int p0 :: .ref m0 :: rest)) := by
  have hPc := hP.sub (ws' := (wM m0 m1 m2 m3 m4 m5 cI cZ cd ux up uq ar nr un um)) [5, 6, 7, 8, 9, 10] rfl
  have hDc := hD.sub (ws' := (wM m0 m1 m2 m3 m4 m5 cI cZ cd ux up uq ar nr un um)) [5, 6, 7, 8, 9, 10] (by decide) rfl
  have hKc := hK.sub (tys' := tyIZ cI cZ) [0, 1] rfl
  have hFc := va_free (wc := (wM m0 m1 m2 m3 m4 m5 cI cZ cd ux up uq ar nr un um)) hD hS hA [5, 6, 7, 8, 9, 10] rfl
  refine va_calli (va_runV (As := [.int p0, .int p1]) (rest := rest) ⟨hx, hb, hml, hown, htB⟩ (c_M_part l dC dI m0 m1 m2 m3 m4 m5 cI cZ cd ux up uq ar nr un um H.size hp ht p0 p1) (cwV 2 htB (gV hml_L_46 hinm_M_part hsel_M_part hini_M hco_M_part) rfl rfl rfl (by decide +kernel) ⟨Nat.le_of_ble_eq_true rfl, Nat.le_of_ble_eq_true rfl⟩) ⟨fun a U g mk q => by obtain ⟨q0, q1, qP, qK, qD⟩ := q; exact ⟨q0, q1, qP, va_K.moved (u := U) (U := U.calling g mk a) (Vm.Alike.refl U.vm) qK, qD⟩, va_recv hKc hPc (ci := 1) (q0 := 0) rfl rfl, fun U hU hW => ⟨rfl, by rw [hU], by rw [hU]; exact hPc, va_K.moved hW.alike hKc, hDc.weaken (fun _ _ _ _ => trivial)⟩⟩ rfl rfl hls rfl (lv_room hre) hd ⟨hce.1, hce.2⟩) hS (fun q _ h => hFc q h) hFc (fun r u t H1 locs1 ht hvm hw hB hz1 hk1 hS1 => ?_)
  obtain ⟨hP1, hK1, hD1⟩ := hB
  rw [ht] at hP1
  obtain ⟨hw1, rfl⟩ := hw
  rw [hw1] at hP1 hD1
  have hj := va_join (wr := (wX x0 x1 x2 x3 x4 cI cZ tx pt qt sr tn pn ++ [(qo, .inl (cJ, 1, .inr (.inl ov)))])) (w1 := (wM m0 m1 m2 m3 m4 m5 cI cZ (if okp un p0 p1 = true then nI 0 else nI 1) ux up uq u.2.1 u.2.2 un um)) hP hD [5, 6, 7, 8, 9, 10] [0, 1, 2, 3, 4, 11] rfl rfl (by decide) (by decide) hk1 hFc hP1 hD1
  exact kk u H1 locs1 (hj.1.sub (ws' := (wLw x0 x1 x2 x3 x4 m0 m1 m2 m3 m4 m5 qo cI cZ cJ tx pt qt sr tn pn (if okp un p0 p1 = true then nI 0 else nI 1) ux up uq u.2.1 u.2.2 un um ov)) [0, 1, 2, 3, 4, 6, 7, 8, 9, 10, 11, 5] rfl) (hj.2.sub (ws' := (wLw x0 x1 x2 x3 x4 m0 m1 m2 m3 m4 m5 qo cI cZ cJ tx pt qt sr tn pn (if okp un p0 p1 = true then nI 0 else nI 1) ux up uq u.2.1 u.2.2 un um ov)) [0, 1, 2, 3, 4, 6, 7, 8, 9, 10, 11, 5] (by decide) rfl) hS1

theorem q_M_isSpecial {p : Program} {l : Launch} {e : Env} {s : State} {mm : MethodId} {args : Array Value} {below : List Frame} {meth : Method} {c : Code} {H : Heap} {locs : List Loc} {cells slots : Nat} {Q : State → Prop} {pcn : Nat} {ls : Array Slot} {rest : List Value} {dC : Nat → ClassId} {dI : Nat → Nat → Nat} {x0 x1 x2 x3 x4 m0 m1 m2 m3 m4 m5 qo : Nat} {cI cZ cJ : ClassId} {tx pt qt sr : Nat → Int32} {tn pn : Nat} {cd : Int32} {ux up uq ar nr : Nat → Int32} {un um : Nat} {ov : Nat → Int64} {A : Nat → Prop} {H0 : Heap} (hp : um ≤ 200) (hx : p.tables.exec = Jvm.exec) (hb : c.code = code) (hml : c.maxLocals = 7) (hown : s.vm.findClass R_L = some mm.cls) (htB : ∀ w ∈ wB, w.before args s = true) (hK : va_K (dC, dI) classes (tyJ cI cZ cJ) s) (hP : va_P (dC, dI) classes (wLw x0 x1 x2 x3 x4 m0 m1 m2 m3 m4 m5 qo cI cZ cJ tx pt qt sr tn pn cd ux up uq ar nr un um ov) H) (hD : va_D A (wLw x0 x1 x2 x3 x4 m0 m1 m2 m3 m4 m5 qo cI cZ cJ tx pt qt sr tn pn cd ux up uq ar nr un um ov)) (hS : va_S A H0 H locs) (hA : ∀ q : Nat, H0.size ≤ q → A q) (hls : ls.size = 7) (hre : (rest.map fun v => v.category).sum ≤ 8) (hce : cells ≤ 1037 ∧ slots ≤ 11016) (hd : decode code pcn = .ok (.invokevirtual 58, 3)) (kk : ∀ (H1 : Heap) (locs1 : List Loc), va_P (dC, dI) classes (wLw x0 x1 x2 x3 x4 m0 m1 m2 m3 m4 m5 qo cI cZ cJ tx pt qt sr tn pn (nI 0) ux up uq ar nr un um ov) H1 → va_D A (wLw x0 x1 x2 x3 x4 m0 m1 m2 m3 m4 m5 qo cI cZ cJ tx pt qt sr tn pn (nI 0) ux up uq ar nr un um ov) → va_S A H0 H1 locs1 → W p l e room_1 s mm args below meth c H1 locs1 cells slots Q (F0 mm (pcn + 3) ls (.int (bI (sp up uq um um)) :: rest))) : W p l e room_1 s mm args below meth c H locs cells slots Q (F0 mm pcn ls (.ref m0 :: rest)) := by
  have hPc := hP.sub (ws' := (wM m0 m1 m2 m3 m4 m5 cI cZ cd ux up uq ar nr un um)) [5, 6, 7, 8, 9, 10] rfl
  have hDc := hD.sub (ws' := (wM m0 m1 m2 m3 m4 m5 cI cZ cd ux up uq ar nr un um)) [5, 6, 7, 8, 9, 10] (by decide) rfl
  have hKc := hK.sub (tys' := tyIZ cI cZ) [0, 1] rfl
  have hFc := va_free (wc := (wM m0 m1 m2 m3 m4 m5 cI cZ cd ux up uq ar nr un um)) hD hS hA [5, 6, 7, 8, 9, 10] rfl
  refine va_calli (va_runV (As := []) (rest := rest) ⟨hx, hb, hml, hown, htB⟩ (c_M_isSpecial l dC dI m0 m1 m2 m3 m4 m5 cI cZ cd ux up uq ar nr un um H.size hp) (cwV 0 htB (gV hml_L_58 hinm_M_isSpecial hsel_M_isSpecial hini_M hco_M_isSpecial) rfl rfl rfl (by decide +kernel) ⟨Nat.le_of_ble_eq_true rfl, Nat.le_of_ble_eq_true rfl⟩) ⟨fun a U g mk q => by obtain ⟨q0, q1, qP, qK, qD⟩ := q; exact ⟨q0, q1, qP, va_K.moved (u := U) (U := U.calling g mk a) (Vm.Alike.refl U.vm) qK, qD⟩, va_recv hKc hPc (ci := 1) (q0 := 0) rfl rfl, fun U hU hW => ⟨rfl, by rw [hU], by rw [hU]; exact hPc, va_K.moved hW.alike hKc, hDc.weaken (fun _ _ _ _ => trivial)⟩⟩ rfl rfl hls rfl (lv_room hre) hd ⟨hce.1, hce.2⟩) hS (fun q _ h => hFc q h) hFc (fun r u t H1 locs1 ht hvm hw hB hz1 hk1 hS1 => ?_)
  obtain ⟨hP1, hK1, hD1⟩ := hB
  rw [ht] at hP1
  obtain rfl := hw
  have hj := va_join (wr := (wX x0 x1 x2 x3 x4 cI cZ tx pt qt sr tn pn ++ [(qo, .inl (cJ, 1, .inr (.inl ov)))])) (w1 := (wM m0 m1 m2 m3 m4 m5 cI cZ (nI 0) ux up uq ar nr un um)) hP hD [5, 6, 7, 8, 9, 10] [0, 1, 2, 3, 4, 11] rfl rfl (by decide) (by decide) hk1 hFc hP1 hD1
  exact kk H1 locs1 (hj.1.sub (ws' := (wLw x0 x1 x2 x3 x4 m0 m1 m2 m3 m4 m5 qo cI cZ cJ tx pt qt sr tn pn (nI 0) ux up uq ar nr un um ov)) [0, 1, 2, 3, 4, 6, 7, 8, 9, 10, 11, 5] rfl) (hj.2.sub (ws' := (wLw x0 x1 x2 x3 x4 m0 m1 m2 m3 m4 m5 qo cI cZ cJ tx pt qt sr tn pn (nI 0) ux up uq ar nr un um ov)) [0, 1, 2, 3, 4, 6, 7, 8, 9, 10, 11, 5] (by decide) rfl) hS1

theorem q_M_count {p : Program} {l : Launch} {e : Env} {s : State} {mm : MethodId} {args : Array Value} {below : List Frame} {meth : Method} {c : Code} {H : Heap} {locs : List Loc} {cells slots : Nat} {Q : State → Prop} {pcn : Nat} {ls : Array Slot} {rest : List Value} {dC : Nat → ClassId} {dI : Nat → Nat → Nat} {x0 x1 x2 x3 x4 m0 m1 m2 m3 m4 m5 qo : Nat} {cI cZ cJ : ClassId} {tx pt qt sr : Nat → Int32} {tn pn : Nat} {cd : Int32} {ux up uq ar nr : Nat → Int32} {un um : Nat} {ov : Nat → Int64} {A : Nat → Prop} {H0 : Heap} (hp : um ≤ 200) {wh : Int32} (hx : p.tables.exec = Jvm.exec) (hb : c.code = code) (hml : c.maxLocals = 7) (hown : s.vm.findClass R_L = some mm.cls) (htB : ∀ w ∈ wB, w.before args s = true) (hK : va_K (dC, dI) classes (tyJ cI cZ cJ) s) (hP : va_P (dC, dI) classes (wLw x0 x1 x2 x3 x4 m0 m1 m2 m3 m4 m5 qo cI cZ cJ tx pt qt sr tn pn cd ux up uq ar nr un um ov) H) (hD : va_D A (wLw x0 x1 x2 x3 x4 m0 m1 m2 m3 m4 m5 qo cI cZ cJ tx pt qt sr tn pn cd ux up uq ar nr un um ov)) (hS : va_S A H0 H locs) (hA : ∀ q : Nat, H0.size ≤ q → A q) (hls : ls.size = 7) (hre : (rest.map fun v => v.category).sum ≤ 8) (hce : cells ≤ 1037 ∧ slots ≤ 11016) (hd : decode code pcn = .ok (.invokevirtual 63, 3)) (kk : ∀ (H1 : Heap) (locs1 : List Loc), va_P (dC, dI) classes (wLw x0 x1 x2 x3 x4 m0 m1 m2 m3 m4 m5 qo cI cZ cJ tx pt qt sr tn pn (nI 0) ux up uq ar nr un um ov) H1 → va_D A (wLw x0 x1 x2 x3 x4 m0 m1 m2 m3 m4 m5 qo cI cZ cJ tx pt qt sr tn pn (nI 0) ux up uq ar nr un um ov) → va_S A H0 H1 locs1 → W p l e room_1 s mm args below meth c H1 locs1 cells slots Q (F0 mm (pcn + 3) ls (.int (ctX un um up uq wh) :: rest))) : W p l e room_1 s mm args below meth c H locs cells slots Q (F0 mm pcn ls (.int wh :: .ref m0 :: rest)) := by
  have hPc := hP.sub (ws' := (wM m0 m1 m2 m3 m4 m5 cI cZ cd ux up uq ar nr un um)) [5, 6, 7, 8, 9, 10] rfl
  have hDc := hD.sub (ws' := (wM m0 m1 m2 m3 m4 m5 cI cZ cd ux up uq ar nr un um)) [5, 6, 7, 8, 9, 10] (by decide) rfl
  have hKc := hK.sub (tys' := tyIZ cI cZ) [0, 1] rfl
  have hFc := va_free (wc := (wM m0 m1 m2 m3 m4 m5 cI cZ cd ux up uq ar nr un um)) hD hS hA [5, 6, 7, 8, 9, 10] rfl
  refine va_calli (va_runV (As := [.int wh]) (rest := rest) ⟨hx, hb, hml, hown, htB⟩ (c_M_count l dC dI m0 m1 m2 m3 m4 m5 cI cZ cd ux up uq ar nr un um H.size hp wh) (cwV 1 htB (gV hml_L_63 hinm_M_count hsel_M_count hini_M hco_M_count) rfl rfl rfl (by decide +kernel) ⟨Nat.le_of_ble_eq_true rfl, Nat.le_of_ble_eq_true rfl⟩) ⟨fun a U g mk q => by obtain ⟨q0, q1, qP, qK, qD⟩ := q; exact ⟨q0, q1, qP, va_K.moved (u := U) (U := U.calling g mk a) (Vm.Alike.refl U.vm) qK, qD⟩, va_recv hKc hPc (ci := 1) (q0 := 0) rfl rfl, fun U hU hW => ⟨rfl, by rw [hU], by rw [hU]; exact hPc, va_K.moved hW.alike hKc, hDc.weaken (fun _ _ _ _ => trivial)⟩⟩ rfl rfl hls rfl (lv_room hre) hd ⟨hce.1, hce.2⟩) hS (fun q _ h => hFc q h) hFc (fun r u t H1 locs1 ht hvm hw hB hz1 hk1 hS1 => ?_)
  obtain ⟨hP1, hK1, hD1⟩ := hB
  rw [ht] at hP1
  obtain rfl := hw
  have hj := va_join (wr := (wX x0 x1 x2 x3 x4 cI cZ tx pt qt sr tn pn ++ [(qo, .inl (cJ, 1, .inr (.inl ov)))])) (w1 := (wM m0 m1 m2 m3 m4 m5 cI cZ (nI 0) ux up uq ar nr un um)) hP hD [5, 6, 7, 8, 9, 10] [0, 1, 2, 3, 4, 11] rfl rfl (by decide) (by decide) hk1 hFc hP1 hD1
  exact kk H1 locs1 (hj.1.sub (ws' := (wLw x0 x1 x2 x3 x4 m0 m1 m2 m3 m4 m5 qo cI cZ cJ tx pt qt sr tn pn (nI 0) ux up uq ar nr un um ov)) [0, 1, 2, 3, 4, 6, 7, 8, 9, 10, 11, 5] rfl) (hj.2.sub (ws' := (wLw x0 x1 x2 x3 x4 m0 m1 m2 m3 m4 m5 qo cI cZ cJ tx pt qt sr tn pn (nI 0) ux up uq ar nr un um ov)) [0, 1, 2, 3, 4, 6, 7, 8, 9, 10, 11, 5] (by decide) rfl) hS1

theorem q_X_isSpecial {p : Program} {l : Launch} {e : Env} {s : State} {mm : MethodId} {args : Array Value} {below : List Frame} {meth : Method} {c : Code} {H : Heap} {locs : List Loc} {cells slots : Nat} {Q : State → Prop} {pcn : Nat} {ls : Array Slot} {rest : List Value} {dC : Nat → ClassId} {dI : Nat → Nat → Nat} {x0 x1 x2 x3 x4 m0 m1 m2 m3 m4 m5 qo : Nat} {cI cZ cJ : ClassId} {tx pt qt sr : Nat → Int32} {tn pn : Nat} {cd : Int32} {ux up uq ar nr : Nat → Int32} {un um : Nat} {ov : Nat → Int64} {A : Nat → Prop} {H0 : Heap} (hp : pn ≤ 200) (hx : p.tables.exec = Jvm.exec) (hb : c.code = code) (hml : c.maxLocals = 7) (hown : s.vm.findClass R_L = some mm.cls) (htB : ∀ w ∈ wB, w.before args s = true) (hK : va_K (dC, dI) classes (tyJ cI cZ cJ) s) (hP : va_P (dC, dI) classes (wLw x0 x1 x2 x3 x4 m0 m1 m2 m3 m4 m5 qo cI cZ cJ tx pt qt sr tn pn cd ux up uq ar nr un um ov) H) (hD : va_D A (wLw x0 x1 x2 x3 x4 m0 m1 m2 m3 m4 m5 qo cI cZ cJ tx pt qt sr tn pn cd ux up uq ar nr un um ov)) (hS : va_S A H0 H locs) (hA : ∀ q : Nat, H0.size ≤ q → A q) (hls : ls.size = 7) (hre : (rest.map fun v => v.category).sum ≤ 8) (hce : cells ≤ 1037 ∧ slots ≤ 11016) (hd : decode code pcn = .ok (.invokevirtual 55, 3)) (kk : W p l e room_1 s mm args below meth c H locs cells slots Q (F0 mm (pcn + 3) ls (.int (bI (sp pt qt pn pn)) :: rest))) : W p l e room_1 s mm args below meth c H locs cells slots Q (F0 mm pcn ls (.ref x0 :: rest)) := by
  have hPc := hP.sub (ws' := (wX x0 x1 x2 x3 x4 cI cZ tx pt qt sr tn pn)) [0, 1, 2, 3, 4] rfl
  have hKc := hK.sub (tys' := tyIZ cI cZ) [0, 1] rfl
  refine vp_callSi (va_Run.run (va_runV (As := []) (rest := rest) ⟨hx, hb, hml, hown, htB⟩ (c_X_isSpecial l dC dI x0 x1 x2 x3 x4 cI cZ tx pt qt sr tn pn hp) (cwV 0 htB (gV hml_L_55 hinm_X_isSpecial hsel_X_isSpecial hini_X hco_X_isSpecial) rfl rfl rfl (by decide +kernel) ⟨Nat.le_of_ble_eq_true rfl, Nat.le_of_ble_eq_true rfl⟩) ⟨fun a U g mk q => by obtain ⟨q0, qP, qK⟩ := q; exact ⟨q0, qP, va_K.moved (u := U) (U := U.calling g mk a) (Vm.Alike.refl U.vm) qK⟩, va_recv hKc hPc (ci := 0) (q0 := 0) rfl rfl, fun U hU hW => ⟨rfl, by rw [hU]; exact hPc, va_K.moved hW.alike hKc⟩⟩ rfl rfl hls rfl (lv_room hre) hd ⟨hce.1, hce.2⟩)) (fun r hr => ?_)
  rw [hr]; exact kk

theorem q_X_count {p : Program} {l : Launch} {e : Env} {s : State} {mm : MethodId} {args : Array Value} {below : List Frame} {meth : Method} {c : Code} {H : Heap} {locs : List Loc} {cells slots : Nat} {Q : State → Prop} {pcn : Nat} {ls : Array Slot} {rest : List Value} {dC : Nat → ClassId} {dI : Nat → Nat → Nat} {x0 x1 x2 x3 x4 m0 m1 m2 m3 m4 m5 qo : Nat} {cI cZ cJ : ClassId} {tx pt qt sr : Nat → Int32} {tn pn : Nat} {cd : Int32} {ux up uq ar nr : Nat → Int32} {un um : Nat} {ov : Nat → Int64} {A : Nat → Prop} {H0 : Heap} (hp : pn ≤ 200) {wh : Int32} (hx : p.tables.exec = Jvm.exec) (hb : c.code = code) (hml : c.maxLocals = 7) (hown : s.vm.findClass R_L = some mm.cls) (htB : ∀ w ∈ wB, w.before args s = true) (hK : va_K (dC, dI) classes (tyJ cI cZ cJ) s) (hP : va_P (dC, dI) classes (wLw x0 x1 x2 x3 x4 m0 m1 m2 m3 m4 m5 qo cI cZ cJ tx pt qt sr tn pn cd ux up uq ar nr un um ov) H) (hD : va_D A (wLw x0 x1 x2 x3 x4 m0 m1 m2 m3 m4 m5 qo cI cZ cJ tx pt qt sr tn pn cd ux up uq ar nr un um ov)) (hS : va_S A H0 H locs) (hA : ∀ q : Nat, H0.size ≤ q → A q) (hls : ls.size = 7) (hre : (rest.map fun v => v.category).sum ≤ 8) (hce : cells ≤ 1037 ∧ slots ≤ 11016) (hd : decode code pcn = .ok (.invokevirtual 59, 3)) (kk : W p l e room_1 s mm args below meth c H locs cells slots Q (F0 mm (pcn + 3) ls (.int (ctX tn pn pt qt wh) :: rest))) : W p l e room_1 s mm args below meth c H locs cells slots Q (F0 mm pcn ls (.int wh :: .ref x0 :: rest)) := by
  have hPc := hP.sub (ws' := (wX x0 x1 x2 x3 x4 cI cZ tx pt qt sr tn pn)) [0, 1, 2, 3, 4] rfl
  have hKc := hK.sub (tys' := tyIZ cI cZ) [0, 1] rfl
  refine vp_callSi (va_Run.run (va_runV (As := [.int wh]) (rest := rest) ⟨hx, hb, hml, hown, htB⟩ (c_X_count l dC dI x0 x1 x2 x3 x4 cI cZ tx pt qt sr tn pn hp wh) (cwV 1 htB (gV hml_L_59 hinm_X_count hsel_X_count hini_X hco_X_count) rfl rfl rfl (by decide +kernel) ⟨Nat.le_of_ble_eq_true rfl, Nat.le_of_ble_eq_true rfl⟩) ⟨fun a U g mk q => by obtain ⟨q0, qP, qK⟩ := q; exact ⟨q0, qP, va_K.moved (u := U) (U := U.calling g mk a) (Vm.Alike.refl U.vm) qK⟩, va_recv hKc hPc (ci := 0) (q0 := 0) rfl rfl, fun U hU hW => ⟨rfl, by rw [hU]; exact hPc, va_K.moved hW.alike hKc⟩⟩ rfl rfl hls rfl (lv_room hre) hd ⟨hce.1, hce.2⟩)) (fun r hr => ?_)
  rw [hr]; exact kk

theorem q_M_thrown {p : Program} {l : Launch} {e : Env} {s : State} {mm : MethodId} {args : Array Value} {below : List Frame} {meth : Method} {c : Code} {H : Heap} {locs : List Loc} {cells slots : Nat} {Q : State → Prop} {pcn : Nat} {ls : Array Slot} {rest : List Value} {dC : Nat → ClassId} {dI : Nat → Nat → Nat} {x0 x1 x2 x3 x4 m0 m1 m2 m3 m4 m5 qo : Nat} {cI cZ cJ : ClassId} {tx pt qt sr : Nat → Int32} {tn pn : Nat} {cd : Int32} {ux up uq ar nr : Nat → Int32} {un um : Nat} {ov : Nat → Int64} {A : Nat → Prop} {H0 : Heap}  (hx : p.tables.exec = Jvm.exec) (hb : c.code = code) (hml : c.maxLocals = 7) (hown : s.vm.findClass R_L = some mm.cls) (htB : ∀ w ∈ wB, w.before args s = true) (hK : va_K (dC, dI) classes (tyJ cI cZ cJ) s) (hP : va_P (dC, dI) classes (wLw x0 x1 x2 x3 x4 m0 m1 m2 m3 m4 m5 qo cI cZ cJ tx pt qt sr tn pn cd ux up uq ar nr un um ov) H) (hD : va_D A (wLw x0 x1 x2 x3 x4 m0 m1 m2 m3 m4 m5 qo cI cZ cJ tx pt qt sr tn pn cd ux up uq ar nr un um ov)) (hS : va_S A H0 H locs) (hA : ∀ q : Nat, H0.size ≤ q → A q) (hls : ls.size = 7) (hre : (rest.map fun v => v.category).sum ≤ 8) (hce : cells ≤ 1037 ∧ slots ≤ 11016) (hd : decode code pcn = .ok (.invokevirtual 47, 3)) (kk : W p l e room_1 s mm args below meth c H locs cells slots Q (F0 mm (pcn + 3) ls (.int (cd) :: rest))) : W p l e room_1 s mm args below meth c H locs cells slots Q (F0 mm pcn ls (.ref m0 :: rest)) := by
  have hPc := hP.sub (ws' := (wM m0 m1 m2 m3 m4 m5 cI cZ cd ux up uq ar nr un um)) [5, 6, 7, 8, 9, 10] rfl
  have hKc := hK.sub (tys' := tyIZ cI cZ) [0, 1] rfl
  refine vp_callSi (va_Run.run (va_runV (As := []) (rest := rest) ⟨hx, hb, hml, hown, htB⟩ (c_M_thrown l dC dI m0 m1 m2 m3 m4 m5 cI cZ cd ux up uq ar nr un um ) (cwV 0 htB (gV hml_L_47 hinm_M_thrown hsel_M_thrown hini_M hco_M_thrown) rfl rfl rfl (by decide +kernel) ⟨Nat.le_of_ble_eq_true rfl, Nat.le_of_ble_eq_true rfl⟩) ⟨fun a U g mk q => by obtain ⟨q0, qP, qK⟩ := q; exact ⟨q0, qP, va_K.moved (u := U) (U := U.calling g mk a) (Vm.Alike.refl U.vm) qK⟩, va_recv hKc hPc (ci := 1) (q0 := 0) rfl rfl, fun U hU hW => ⟨rfl, by rw [hU]; exact hPc, va_K.moved hW.alike hKc⟩⟩ rfl rfl hls rfl (lv_room hre) hd ⟨hce.1, hce.2⟩)) (fun r hr => ?_)
  rw [hr]; exact kk

theorem q_L_part {p : Program} {l : Launch} {e : Env} {s : State} {mm : MethodId} {args : Array Value} {below : List Frame} {meth : Method} {c : Code} {H : Heap} {locs : List Loc} {cells slots : Nat} {Q : State → Prop} {pcn : Nat} {ls : Array Slot} {rest : List Value} {dC : Nat → ClassId} {dI : Nat → Nat → Nat} {x0 x1 x2 x3 x4 m0 m1 m2 m3 m4 m5 qo : Nat} {cI cZ cJ : ClassId} {tx pt qt sr : Nat → Int32} {tn pn : Nat} {cd : Int32} {ux up uq ar nr : Nat → Int32} {un um : Nat} {ov : Nat → Int64} {A : Nat → Prop} {H0 : Heap} (hlt : l.stackTraces = false) {sa : Nat} (hp : pn ≤ 200) (ht : tn ≤ 400) {p0 p1 : Int32} (hZ : eX sa A s H0) (hx : p.tables.exec = Jvm.exec) (hb : c.code = code) (hml : c.maxLocals = 7) (hown : s.vm.findClass R_L = some mm.cls) (htB : ∀ w ∈ wB, w.before args s = true) (hK : va_K (dC, dI) classes (tyJ cI cZ cJ) s) (hP : va_P (dC, dI) classes (wLw x0 x1 x2 x3 x4 m0 m1 m2 m3 m4 m5 qo cI cZ cJ tx pt qt sr tn pn cd ux up uq ar nr un um ov) H) (hD : va_D A (wLw x0 x1 x2 x3 x4 m0 m1 m2 m3 m4 m5 qo cI cZ cJ tx pt qt sr tn pn cd ux up uq ar nr un um ov)) (hS : va_S A H0 H locs) (hA : ∀ q : Nat, H0.size ≤ q → A q) (hls : ls.size = 7) (hre : (rest.map fun v => v.category).sum ≤ 8) (hce : cells + 1 ≤ 1037 ∧ slots + 6 ≤ 11016) (hd : decode code pcn = .ok (.invokestatic 41, 3)) (kk : ∀ (r : Int32) (u : (Nat → Int32) × (Nat → Int64)) (H1 : Heap) (locs1 : List Loc), lp_r (okp tn p0 p1) (mX tx pt qt pn p0.toNatClampNeg p1.toNatClampNeg) r u.2 → va_P (dC, dI) classes (wLw x0 x1 x2 x3 x4 m0 m1 m2 m3 m4 m5 qo cI cZ cJ tx pt qt u.1 tn pn cd ux up uq ar nr un um u.2) H1 → va_D A (wLw x0 x1 x2 x3 x4 m0 m1 m2 m3 m4 m5 qo cI cZ cJ tx pt qt u.1 tn pn cd ux up uq ar nr un um u.2) → va_S A H0 H1 locs1 → W p l e room_1 s mm args below meth c H1 locs1 (cells + 1) (slots + 6) Q (F0 mm (pcn + 3) ls (.int r :: rest))) : W p l e room_1 s mm args below meth c H locs cells slots Q (F0 mm pcn ls (.ref qo :: .int p1 :: .int p0 :: .ref x0 :: rest)) := by
  have hPc := hP.sub (ws' := (wXO x0 x1 x2 x3 x4 qo cI cZ cJ tx pt qt sr tn pn ov)) [0, 1, 2, 3, 4, 11] rfl
  have hDc := hD.sub (ws' := (wXO x0 x1 x2 x3 x4 qo cI cZ cJ tx pt qt sr tn pn ov)) [0, 1, 2, 3, 4, 11] (by decide) rfl
  have hFc := va_free (wc := (wXO x0 x1 x2 x3 x4 qo cI cZ cJ tx pt qt sr tn pn ov)) hD hS hA [0, 1, 2, 3, 4, 11] rfl
  have hG : GoodIn wB (va_wsS R_L 41 y_L_part (.codeWith y_L_part b_L_part 5 (some .int) [(0, 17, 20, 13)] :: wB)) := by
    intro w hw
    unfold va_wsS at hw
    have hm : w ∈ wB := by
      rcases List.mem_append.mp hw with h | h
      · simp only [List.mem_cons, List.not_mem_nil, or_false] at h
        rcases h with rfl | rfl | rfl
        · exact hml_L_41
        · exact hsta_L_part
        · exact hini_L
      · exact (gB hco_L_part w h).1
    exact ⟨hm, good_of_word (wB_good _ hm)⟩
  refine vx_calli (vx_runSX (hh := [(0, 17, 20, 13)]) (As := [.ref x0, .int p0, .int p1, .ref qo]) (rest := rest) ⟨hx, hb, hml, hown, htB⟩ (c_L_part l dC dI x0 x1 x2 x3 x4 qo cI cZ cJ tx pt qt sr tn pn ov hlt H.size sa hp ht p0 p1) (vx_cwSW 4 htB hG rfl rfl rfl (by decide +kernel) ⟨Nat.le_of_ble_eq_true rfl, Nat.le_of_ble_eq_true rfl⟩) ⟨fun a U g mk q => by obtain ⟨q0, q1, qP, qK, qD, qZ⟩ := q; exact ⟨q0, q1, qP, va_K.moved (u := U) (U := U.calling g mk a) (Vm.Alike.refl U.vm) qK, qD, qZ.warm (U := U.calling g mk a) (State.WarmedH.refl U) (fun _ _ _ => rfl) (fun _ h => h)⟩, fun U hU hW => ⟨rfl, by rw [hU], by rw [hU]; exact hPc, va_K.moved hW.alike hK, hDc.weaken (fun _ _ _ _ => trivial), by rw [hU]; exact hZ.warm hW hS.2.1 hFc⟩⟩ rfl rfl hls rfl (lv_room hre) hd ⟨hce.1, hce.2⟩) hS (fun q _ h => hFc q h) hFc (fun q _ h => h.elim) (fun E ce q9 u t H1 locs1 ht hvm hpx => hpx.elim) (fun r u t H1 locs1 ht hvm hw hB hz1 hk1 hS1 => ?_)
  obtain ⟨hP1, hK1, hD1⟩ := hB
  rw [ht] at hP1
  have hj := va_join (wr := wM m0 m1 m2 m3 m4 m5 cI cZ cd ux up uq ar nr un um) (w1 := (wXO x0 x1 x2 x3 x4 qo cI cZ cJ tx pt qt u.1 tn pn u.2)) hP hD [0, 1, 2, 3, 4, 11] [5, 6, 7, 8, 9, 10] rfl rfl (by decide) (by decide) hk1 hFc hP1 hD1
  exact kk r u H1 locs1 hw (hj.1.sub (ws' := (wLw x0 x1 x2 x3 x4 m0 m1 m2 m3 m4 m5 qo cI cZ cJ tx pt qt u.1 tn pn cd ux up uq ar nr un um u.2)) [6, 7, 8, 9, 10, 0, 1, 2, 3, 4, 5, 11] rfl) (hj.2.sub (ws' := (wLw x0 x1 x2 x3 x4 m0 m1 m2 m3 m4 m5 qo cI cZ cJ tx pt qt u.1 tn pn cd ux up uq ar nr un um u.2)) [6, 7, 8, 9, 10, 0, 1, 2, 3, 4, 5, 11] (by decide) rfl) hS1
end
section
/-! what the law compares -/
theorem cut_same {tx pt qt : Nat → Int32} {pn tn : Nat} {en lg : Bool} (ht : tn ≤ 400) : (if en = true then eI tn (rdp tx pt qt pn lg 0 pn 0 ga tn) else oI (fnd (fun j => mX tx pt qt pn 0 j) lg (tn + 1))) = (if en = true then oI (fnd (fun z => mM tx pt qt pn (tn - z) tn tn) lg (tn + 1)) else oI (fnd (fun z => mM tx pt qt pn 0 tn z) lg (tn + 1))) := by
  cases en
  · rw [if_neg (by decide), if_neg (by decide), begin_same]
  · rw [if_pos rfl, if_pos rfl, end_same ht]
theorem lp_val {ok mt : Bool} {r : Int32} {ov : Nat → Int64} (h : lp_r ok mt r ov) : r = (if ok = true then nI 0 else nI 1) := by
  cases ok
  · rw [if_neg (by decide)]; exact h.2 rfl
  · rw [if_pos rfl]; exact (h.1 rfl).1
theorem cdv_0 {ok : Bool} (h : (if ok = true then nI 0 else nI 1) = (0 : Int32)) : ok = true := by
  cases ok
  · rw [if_neg (by decide)] at h; exact absurd h (by decide)
  · rfl
theorem part_same {tx pt qt : Nat → Int32} {pn tn : Nat} {p0 p1 : Int32} (ht : tn ≤ 400) (h : okp tn p0 p1 = true) : mX tx pt qt pn p0.toNatClampNeg p1.toNatClampNeg = mM tx pt qt pn p0.toNatClampNeg p1.toNatClampNeg p1.toNatClampNeg := by
  have h0 := h
  simp only [okp, Bool.and_eq_true, decide_eq_true_eq] at h0
  obtain ⟨frm, too, h1, h2, rfl, rfl⟩ := okp_t ht h0.1 h0.2.1 h0.2.2
  rw [nI_clamp (n := frm) (by omega), nI_clamp (n := too) (by omega)]
  exact mX_mM h1 (Nat.le_refl _)
theorem part_ov {ok mt : Bool} {r : Int32} {ov : Nat → Int64} (h : lp_r ok mt r ov) (hok : ok = true) : ov 0 = (if mt = true then 1 else 0) := (h.1 hok).2
theorem part_n {tx pt qt : Nat → Int32} {pn tn : Nat} {p0 p1 : Int32} {r : Int32} {ov : Nat → Int64} (ht : tn ≤ 400) (h : lp_r (okp tn p0 p1) (mX tx pt qt pn p0.toNatClampNeg p1.toNatClampNeg) r ov) (hok : okp tn p0 p1 = true)
    (c : (if okp tn p0 p1 = true then bI (mM tx pt qt pn p0.toNatClampNeg p1.toNatClampNeg p1.toNatClampNeg) else nI 0) = 0) : ov 0 = 0 := by
  rw [if_pos hok, ← part_same ht hok] at c
  rw [part_ov h hok, bI_z.mp c]; rfl
theorem part_y {tx pt qt : Nat → Int32} {pn tn : Nat} {p0 p1 : Int32} {r : Int32} {ov : Nat → Int64} (ht : tn ≤ 400) (h : lp_r (okp tn p0 p1) (mX tx pt qt pn p0.toNatClampNeg p1.toNatClampNeg) r ov) (hok : okp tn p0 p1 = true)
    (c : ¬ (if okp tn p0 p1 = true then bI (mM tx pt qt pn p0.toNatClampNeg p1.toNatClampNeg p1.toNatClampNeg) else nI 0) = 0) : ov 0 = 1 := by
  rw [if_pos hok, ← part_same ht hok] at c
  rw [part_ov h hok, bI_nz.mp c]; rfl
end
section
/-! the law: its loop, its start, the claim: by wip/whole/gen/gen30.py -/
/-! THE CLAIM OUT OF ONE WALK OF THE LAW'S BODY. Your part is whole_start (and what it stands on); all else here is the same for every law, but numbers. -/
def R_law : String := "NamePatternLaw"
def lw_P (b : Addr) (xs : List Int32) (args : Array Value) (s : State) : Prop := args = #[.ref b] ∧ s.IntsAt b xs ∧ xs.length ≤ 2560 ∧ (Jvm.Cond.and given_1 narrow_1).before args s = true
def lw_Q (_ : Array Value) (s : State) (o : Outcome) (t : State) : Prop := o = .returned (some (.int 1)) ∧ Framed s o t [] 1037 11016
def lw_Z (below : List Frame) (a : Array Value) (s : State) : State → Prop := fun t => ∃ o, t.status = .running ∧ Ended t below o ∧ lw_Q a s o t
/-- the law's own end, with 1 on the stack, nothing written that was there before, its room as the claim has it -/
theorem lw_ret {p : Program} {l : Launch} {e : Env} {s : State} {m : MethodId} {below : List Frame} {meth : Method} {c : Code} {b : Nat} (hx : p.tables.exec = Jvm.exec) (hb : c.code = code) (hr : meth.sig.returnType = ret) (hlocks : meth.locks = false) {pc : Nat} {H : Heap} {ls : Array Slot} (hdg : decode code pc = .ok (.ireturn, 1)) : W p l e room_1 s m #[Value.ref b] below meth c H [] 1037 11016 (lw_Z below #[Value.ref b] s) (F0 m pc ls [.int 1]) := by
  intro T hT X
  obtain ⟨fs, hret, hrun, hended, hW, hframe⟩ := X.leave (v := some (.int 1)) (hlocks := hlocks) (fun h => by rw [hr] at h; cases h)
  have hmeth' : T.vm.method? m = some meth := X.method'
  refine ⟨T.setFrames fs, ?_, .returned (some (.int 1)), hrun, hended, rfl, ⟨_, rfl⟩, hW, hframe⟩
  jvm_step X.here [X.here.top, hx, hb, hdg, hmeth', hr, ret, narrow_b1]
  (try refine ⟨rfl, ?_⟩); (try refine ⟨rfl, ?_⟩)
  first | (intro acts; rw [hret _ acts rfl rfl rfl]) | rw [hret _ _ rfl rfl rfl]
  exact Steps.refl _
/-- what holds at the law's entry: the machine, the code, the tables' words (any of lw_tbl by 'hts w (by decide +kernel)'), the script of L ints xs at the cell b, what the Statement gives of the start (any of its parts by flat_of_before) -/
def lw_At (p : Program) (s : State) (m : MethodId) (meth : Method) (c : Code) (b L : Nat) (xs : Nat → Int32) : Prop :=
  p.tables.exec = Jvm.exec ∧ c.code = code ∧ meth.sig.returnType = ret ∧ c.maxLocals = 7 ∧ s.vm.findClass R_law = some m.cls ∧ (∀ w ∈ lw_tbl, w.before #[Value.ref b] s = true) ∧ va_X b L xs s s.heap ∧ b < s.heap.size ∧ meth.locks = false ∧ (Jvm.Cond.and given_1 narrow_1).before #[Value.ref b] s = true

set_option maxHeartbeats 4000000 in
set_option maxRecDepth 100000 in
theorem law_loop {p : Program} {l : Launch} {e : Env} {s : State} {mm : MethodId} {below : List Frame} {meth : Method} {c : Code} {dC : Nat → ClassId} {dI : Nat → Nat → Nat} {b L : Nat} {xs : Nat → Int32} (hlt : l.stackTraces = false) (hL : L ≤ 2560) (C0 : lw_At p s mm meth c b L xs) {sa : Nat} (hZ : eX sa (fun q : Nat => s.heap.size ≤ q) s s.heap) {x0 x1 x2 x3 x4 m0 m1 m2 m3 m4 m5 qo : Nat} {cI cZ cJ : ClassId} (hK : va_K (dC, dI) classes (tyJ cI cZ cJ) s) :
    ∀ (n t : Nat) (tx pt qt sr ar nr : Nat → Int32) (tn pn : Nat) (cd : Int32) (ov : Nat → Int64) (H : Heap) (locs : List Loc), 5 * t ≤ L → L < 5 * t + n → tn ≤ 400 → pn ≤ 200 → va_P (dC, dI) classes (wLw x0 x1 x2 x3 x4 m0 m1 m2 m3 m4 m5 qo cI cZ cJ tx pt qt sr tn pn cd tx pt qt ar nr tn pn ov) H → va_D (fun q : Nat => s.heap.size ≤ q) (wLw x0 x1 x2 x3 x4 m0 m1 m2 m3 m4 m5 qo cI cZ cJ tx pt qt sr tn pn cd tx pt qt ar nr tn pn ov) → va_S (fun q : Nat => s.heap.size ≤ q) s.heap H locs → ∀ ls : Array Slot, lv_has ls 7 [(4, .int (nI (5 * t))), (0, .ref b), (1, .ref x0), (2, .ref m0), (3, .ref qo)] → W p l e room_1 s mm #[Value.ref b] below meth c H locs (12 + t) (2818 + 6 * t) (lw_Z below #[Value.ref b] s) (F0 mm 23 ls []) := by
  obtain ⟨hx, hb, hr, hml, hown, hts, hX, hbl, hlocks, hgv⟩ := C0
  have htB : ∀ w ∈ wB, w.before #[Value.ref b] s = true := fun w h => hts w (wB_tbl w h)
  have hA : ∀ q : Nat, s.heap.size ≤ q → (fun q : Nat => s.heap.size ≤ q) q := fun _ h => h
  have hbA : ¬ (fun q : Nat => s.heap.size ≤ q) b := Nat.not_le.mpr hbl
  intro n
  induction n with
  | zero => intro t tx pt qt sr ar nr tn pn cd ov H locs h1 h2; exact absurd h2 (by omega)
  | succ n ih =>
    intro t tx pt qt sr ar nr tn pn cd ov H locs h5t hn ht hp hP hD hS ls hl
    refine lv_iload hx hb d_L_law_23 (lv_at hl 0 rfl) ?_
    refine lv_aload_n hx hb d_L_law_25 rfl (lv_at hl 1 rfl) ?_
    refine va_slen hx hb hX hbl hbA hS d_L_law_26 ?_
    refine lv_iconst (v := nI 5) hx hb d_L_law_27 (by decide) ?_
    refine lv_isub hx hb d_L_law_28 ?_
    refine lv_topi (fun v_1 ev_1 => ?_)
    refine lv_icmp_gt (tgt := 448) hx hb d_L_law_29 (by decide) (fun c_2 => ?_) (fun c_2 => ?_)
    · refine lv_iconst (v := 1) hx hb d_L_law_448 (by decide) ?_
      refine va_forget (fun q hq => hS.2.2 q hq) ?_
      refine W.widen (k := 1037) (n := 11016) (by omega) (by omega) ?_
      exact lw_ret hx hb hr hlocks d_L_law_449
    · have h5 : 5 * t + 5 ≤ L := by
        have ew : v_1 = nI L - nI 5 := ev_1
        rw [ew] at c_2
        have q := mt Int32.lt_iff_toInt_lt.mpr c_2
        rw [pk_sub_toInt (by omega) (by decide), nI_toInt (by omega)] at q
        omega
      refine lv_aload_n hx hb d_L_law_32 rfl (lv_at hl 1 rfl) ?_
      refine lv_iload hx hb d_L_law_33 (lv_at hl 0 rfl) ?_
      refine va_sld hx hb hX hbl hbA hS (vp_in_nI (n := 5 * t) (by omega) (by omega)) d_L_law_35 ?_
      refine lv_topi (fun v_3 ev_3 => ?_)
      obtain rfl : v_3 = xs (5 * t) := ev_3.trans (by rw [nI_clamp (n := 5 * t) (by omega)])
      refine lv_bipush (v := nI 7) hx hb d_L_law_36 (by decide) ?_
      refine lv_iand hx hb d_L_law_38 ?_
      refine lv_topi (fun v_4 ev_4 => ?_)
      obtain ⟨j, hj, ej⟩ := pk_andE (xs (5 * t)) (m := nI 7) 3 (by decide)
      have hj : j < 8 := hj
      have ej : v_4 = nI j := ev_4.trans ej
      rcases (show j = 0 ∨ j = 1 ∨ j = 2 ∨ j = 3 ∨ j = 4 ∨ j = 5 ∨ j = 6 ∨ j = 7 by omega) with rfl | rfl | rfl | rfl | rfl | rfl | rfl | rfl
      · refine lv_tableIn (tgt := 84) (off := 45) hx hb d_L_law_39 (by rw [ej]; decide) (by rw [ej]; decide) (by rw [ej]; decide) (by decide) ?_
        refine lv_aload_n hx hb d_L_law_84 rfl (lv_at hl 2 rfl) ?_
        refine lv_aload_n hx hb d_L_law_85 rfl (lv_at hl 1 rfl) ?_
        refine lv_iload hx hb d_L_law_86 (lv_at hl 0 rfl) ?_
        refine lv_iconst (v := nI 1) hx hb d_L_law_88 (by decide) ?_
        refine lv_iadd hx hb d_L_law_89 ?_
        refine lv_topi (fun v_5 ev_5 => ?_)
        obtain rfl : v_5 = nI (5 * t + 1) := ev_5.trans (nI_add _ _)
        refine va_sld hx hb hX hbl hbA hS (vp_in_nI (n := 5 * t + 1) (by omega) (by omega)) d_L_law_90 ?_
        refine lv_topi (fun v_6 ev_6 => ?_)
        obtain rfl : v_6 = xs (5 * t + 1) := ev_6.trans (by rw [nI_clamp (n := 5 * t + 1) (by omega)])
        refine lv_i2l hx hb d_L_law_91 rfl ?_
        refine lv_bipush (v := nI 32) hx hb d_L_law_92 (by decide) ?_
        refine lv_lshl hx hb d_L_law_94 rfl ?_
        refine lv_aload_n hx hb d_L_law_95 rfl (lv_at hl 1 rfl) ?_
        refine lv_iload hx hb d_L_law_96 (lv_at hl 0 rfl) ?_
        refine lv_iconst (v := nI 2) hx hb d_L_law_98 (by decide) ?_
        refine lv_iadd hx hb d_L_law_99 ?_
        refine lv_topi (fun v_7 ev_7 => ?_)
        obtain rfl : v_7 = nI (5 * t + 2) := ev_7.trans (nI_add _ _)
        refine va_sld hx hb hX hbl hbA hS (vp_in_nI (n := 5 * t + 2) (by omega) (by omega)) d_L_law_100 ?_
        refine lv_topi (fun v_8 ev_8 => ?_)
        obtain rfl : v_8 = xs (5 * t + 2) := ev_8.trans (by rw [nI_clamp (n := 5 * t + 2) (by omega)])
        refine lv_i2l hx hb d_L_law_101 rfl ?_
        refine lv_ldc2 (v := 4294967295) hx hb hown (htB _ hcn_L_19) d_L_law_102 ?_
        refine lv_land hx hb d_L_law_105 ?_
        refine lv_lor hx hb d_L_law_106 ?_
        refine lv_aload_n hx hb d_L_law_107 rfl (lv_at hl 1 rfl) ?_
        refine lv_iload hx hb d_L_law_108 (lv_at hl 0 rfl) ?_
        refine lv_iconst (v := nI 3) hx hb d_L_law_110 (by decide) ?_
        refine lv_iadd hx hb d_L_law_111 ?_
        refine lv_topi (fun v_9 ev_9 => ?_)
        obtain rfl : v_9 = nI (5 * t + 3) := ev_9.trans (nI_add _ _)
        refine va_sld hx hb hX hbl hbA hS (vp_in_nI (n := 5 * t + 3) (by omega) (by omega)) d_L_law_112 ?_
        refine lv_topi (fun v_10 ev_10 => ?_)
        obtain rfl : v_10 = xs (5 * t + 3) := ev_10.trans (by rw [nI_clamp (n := 5 * t + 3) (by omega)])
        refine q_X_text ht hx hb hml hown htB hK hP hD hS hA hl.1 (Nat.le_of_ble_eq_true rfl) ⟨by omega, by omega⟩ d_L_law_113 (fun H locs hP hD hS => ?_)
        refine lv_aload_n hx hb d_L_law_116 rfl (lv_at hl 3 rfl) ?_
        refine lv_aload_n hx hb d_L_law_117 rfl (lv_at hl 1 rfl) ?_
        refine lv_iload hx hb d_L_law_118 (lv_at hl 0 rfl) ?_
        refine lv_iconst (v := nI 1) hx hb d_L_law_120 (by decide) ?_
        refine lv_iadd hx hb d_L_law_121 ?_
        refine lv_topi (fun v_11 ev_11 => ?_)
        obtain rfl : v_11 = nI (5 * t + 1) := ev_11.trans (nI_add _ _)
        refine va_sld hx hb hX hbl hbA hS (vp_in_nI (n := 5 * t + 1) (by omega) (by omega)) d_L_law_122 ?_
        refine lv_topi (fun v_12 ev_12 => ?_)
        obtain rfl : v_12 = xs (5 * t + 1) := ev_12.trans (by rw [nI_clamp (n := 5 * t + 1) (by omega)])
        refine lv_i2l hx hb d_L_law_123 rfl ?_
        refine lv_bipush (v := nI 32) hx hb d_L_law_124 (by decide) ?_
        refine lv_lshl hx hb d_L_law_126 rfl ?_
        refine lv_aload_n hx hb d_L_law_127 rfl (lv_at hl 1 rfl) ?_
        refine lv_iload hx hb d_L_law_128 (lv_at hl 0 rfl) ?_
        refine lv_iconst (v := nI 2) hx hb d_L_law_130 (by decide) ?_
        refine lv_iadd hx hb d_L_law_131 ?_
        refine lv_topi (fun v_13 ev_13 => ?_)
        obtain rfl : v_13 = nI (5 * t + 2) := ev_13.trans (nI_add _ _)
        refine va_sld hx hb hX hbl hbA hS (vp_in_nI (n := 5 * t + 2) (by omega) (by omega)) d_L_law_132 ?_
        refine lv_topi (fun v_14 ev_14 => ?_)
        obtain rfl : v_14 = xs (5 * t + 2) := ev_14.trans (by rw [nI_clamp (n := 5 * t + 2) (by omega)])
        refine lv_i2l hx hb d_L_law_133 rfl ?_
        refine lv_ldc2 (v := 4294967295) hx hb hown (htB _ hcn_L_19) d_L_law_134 ?_
        refine lv_land hx hb d_L_law_137 ?_
        refine lv_lor hx hb d_L_law_138 ?_
        refine lv_aload_n hx hb d_L_law_139 rfl (lv_at hl 1 rfl) ?_
        refine lv_iload hx hb d_L_law_140 (lv_at hl 0 rfl) ?_
        refine lv_iconst (v := nI 3) hx hb d_L_law_142 (by decide) ?_
        refine lv_iadd hx hb d_L_law_143 ?_
        refine lv_topi (fun v_15 ev_15 => ?_)
        obtain rfl : v_15 = nI (5 * t + 3) := ev_15.trans (nI_add _ _)
        refine va_sld hx hb hX hbl hbA hS (vp_in_nI (n := 5 * t + 3) (by omega) (by omega)) d_L_law_144 ?_
        refine lv_topi (fun v_16 ev_16 => ?_)
        obtain rfl : v_16 = xs (5 * t + 3) := ev_16.trans (by rw [nI_clamp (n := 5 * t + 3) (by omega)])
        refine q_M_text ht hx hb hml hown htB hK hP hD hS hA hl.1 (Nat.le_of_ble_eq_true rfl) ⟨by omega, by omega⟩ d_L_law_145 (fun H locs hP hD hS => ?_)
        refine lv_icmp_eq (tgt := 442) hx hb d_L_law_148 (by decide) (fun c_17 => ?_) (fun c_17 => ?_)
        · refine lv_iinc (v := nI (5 * t + 5)) (lv' := [(4, .int (nI (5 * t + 5))), (0, .ref b), (1, .ref x0), (2, .ref m0), (3, .ref qo)]) hx hb d_L_law_442 hl (k := 0) rfl (nI_add _ 5) (by decide) rfl (fun ls hl => ?_)
          refine lv_goto (tgt := 23) hx hb d_L_law_445 (by decide) ?_
          refine W.widen (k := 12 + (t + 1)) (n := 2818 + 6 * (t + 1)) (by omega) (by omega) ?_
          exact ih (t + 1) _ _ _ _ _ _ _ _ _ _ _ _ (by omega) (by omega) (teN_le ht) hp hP hD hS ls (by rw [show 5 * (t + 1) = 5 * t + 5 by omega]; exact lv_sub hl [0, 1, 2, 3, 4] rfl)
        · exact absurd (rfl) c_17
      · refine lv_tableIn (tgt := 153) (off := 114) hx hb d_L_law_39 (by rw [ej]; decide) (by rw [ej]; decide) (by rw [ej]; decide) (by decide) ?_
        refine lv_aload_n hx hb d_L_law_153 rfl (lv_at hl 2 rfl) ?_
        refine lv_aload_n hx hb d_L_law_154 rfl (lv_at hl 1 rfl) ?_
        refine lv_iload hx hb d_L_law_155 (lv_at hl 0 rfl) ?_
        refine lv_iconst (v := nI 1) hx hb d_L_law_157 (by decide) ?_
        refine lv_iadd hx hb d_L_law_158 ?_
        refine lv_topi (fun v_18 ev_18 => ?_)
        obtain rfl : v_18 = nI (5 * t + 1) := ev_18.trans (nI_add _ _)
        refine va_sld hx hb hX hbl hbA hS (vp_in_nI (n := 5 * t + 1) (by omega) (by omega)) d_L_law_159 ?_
        refine lv_topi (fun v_19 ev_19 => ?_)
        obtain rfl : v_19 = xs (5 * t + 1) := ev_19.trans (by rw [nI_clamp (n := 5 * t + 1) (by omega)])
        refine lv_i2l hx hb d_L_law_160 rfl ?_
        refine lv_bipush (v := nI 32) hx hb d_L_law_161 (by decide) ?_
        refine lv_lshl hx hb d_L_law_163 rfl ?_
        refine lv_aload_n hx hb d_L_law_164 rfl (lv_at hl 1 rfl) ?_
        refine lv_iload hx hb d_L_law_165 (lv_at hl 0 rfl) ?_
        refine lv_iconst (v := nI 2) hx hb d_L_law_167 (by decide) ?_
        refine lv_iadd hx hb d_L_law_168 ?_
        refine lv_topi (fun v_20 ev_20 => ?_)
        obtain rfl : v_20 = nI (5 * t + 2) := ev_20.trans (nI_add _ _)
        refine va_sld hx hb hX hbl hbA hS (vp_in_nI (n := 5 * t + 2) (by omega) (by omega)) d_L_law_169 ?_
        refine lv_topi (fun v_21 ev_21 => ?_)
        obtain rfl : v_21 = xs (5 * t + 2) := ev_21.trans (by rw [nI_clamp (n := 5 * t + 2) (by omega)])
        refine lv_i2l hx hb d_L_law_170 rfl ?_
        refine lv_ldc2 (v := 4294967295) hx hb hown (htB _ hcn_L_19) d_L_law_171 ?_
        refine lv_land hx hb d_L_law_174 ?_
        refine lv_lor hx hb d_L_law_175 ?_
        refine lv_aload_n hx hb d_L_law_176 rfl (lv_at hl 1 rfl) ?_
        refine lv_iload hx hb d_L_law_177 (lv_at hl 0 rfl) ?_
        refine lv_iconst (v := nI 3) hx hb d_L_law_179 (by decide) ?_
        refine lv_iadd hx hb d_L_law_180 ?_
        refine lv_topi (fun v_22 ev_22 => ?_)
        obtain rfl : v_22 = nI (5 * t + 3) := ev_22.trans (nI_add _ _)
        refine va_sld hx hb hX hbl hbA hS (vp_in_nI (n := 5 * t + 3) (by omega) (by omega)) d_L_law_181 ?_
        refine lv_topi (fun v_23 ev_23 => ?_)
        obtain rfl : v_23 = xs (5 * t + 3) := ev_23.trans (by rw [nI_clamp (n := 5 * t + 3) (by omega)])
        refine lv_aload_n hx hb d_L_law_182 rfl (lv_at hl 1 rfl) ?_
        refine lv_iload hx hb d_L_law_183 (lv_at hl 0 rfl) ?_
        refine lv_iconst (v := nI 4) hx hb d_L_law_185 (by decide) ?_
        refine lv_iadd hx hb d_L_law_186 ?_
        refine lv_topi (fun v_24 ev_24 => ?_)
        obtain rfl : v_24 = nI (5 * t + 4) := ev_24.trans (nI_add _ _)
        refine va_sld hx hb hX hbl hbA hS (vp_in_nI (n := 5 * t + 4) (by omega) (by omega)) d_L_law_187 ?_
        refine lv_topi (fun v_25 ev_25 => ?_)
        obtain rfl : v_25 = xs (5 * t + 4) := ev_25.trans (by rw [nI_clamp (n := 5 * t + 4) (by omega)])
        refine q_X_pattern hp hx hb hml hown htB hK hP hD hS hA hl.1 (Nat.le_of_ble_eq_true rfl) ⟨by omega, by omega⟩ d_L_law_188 (fun H locs hP hD hS => ?_)
        refine lv_aload_n hx hb d_L_law_191 rfl (lv_at hl 3 rfl) ?_
        refine lv_aload_n hx hb d_L_law_192 rfl (lv_at hl 1 rfl) ?_
        refine lv_iload hx hb d_L_law_193 (lv_at hl 0 rfl) ?_
        refine lv_iconst (v := nI 1) hx hb d_L_law_195 (by decide) ?_
        refine lv_iadd hx hb d_L_law_196 ?_
        refine lv_topi (fun v_26 ev_26 => ?_)
        obtain rfl : v_26 = nI (5 * t + 1) := ev_26.trans (nI_add _ _)
        refine va_sld hx hb hX hbl hbA hS (vp_in_nI (n := 5 * t + 1) (by omega) (by omega)) d_L_law_197 ?_
        refine lv_topi (fun v_27 ev_27 => ?_)
        obtain rfl : v_27 = xs (5 * t + 1) := ev_27.trans (by rw [nI_clamp (n := 5 * t + 1) (by omega)])
        refine lv_i2l hx hb d_L_law_198 rfl ?_
        refine lv_bipush (v := nI 32) hx hb d_L_law_199 (by decide) ?_
        refine lv_lshl hx hb d_L_law_201 rfl ?_
        refine lv_aload_n hx hb d_L_law_202 rfl (lv_at hl 1 rfl) ?_
        refine lv_iload hx hb d_L_law_203 (lv_at hl 0 rfl) ?_
        refine lv_iconst (v := nI 2) hx hb d_L_law_205 (by decide) ?_
        refine lv_iadd hx hb d_L_law_206 ?_
        refine lv_topi (fun v_28 ev_28 => ?_)
        obtain rfl : v_28 = nI (5 * t + 2) := ev_28.trans (nI_add _ _)
        refine va_sld hx hb hX hbl hbA hS (vp_in_nI (n := 5 * t + 2) (by omega) (by omega)) d_L_law_207 ?_
        refine lv_topi (fun v_29 ev_29 => ?_)
        obtain rfl : v_29 = xs (5 * t + 2) := ev_29.trans (by rw [nI_clamp (n := 5 * t + 2) (by omega)])
        refine lv_i2l hx hb d_L_law_208 rfl ?_
        refine lv_ldc2 (v := 4294967295) hx hb hown (htB _ hcn_L_19) d_L_law_209 ?_
        refine lv_land hx hb d_L_law_212 ?_
        refine lv_lor hx hb d_L_law_213 ?_
        refine lv_aload_n hx hb d_L_law_214 rfl (lv_at hl 1 rfl) ?_
        refine lv_iload hx hb d_L_law_215 (lv_at hl 0 rfl) ?_
        refine lv_iconst (v := nI 3) hx hb d_L_law_217 (by decide) ?_
        refine lv_iadd hx hb d_L_law_218 ?_
        refine lv_topi (fun v_30 ev_30 => ?_)
        obtain rfl : v_30 = nI (5 * t + 3) := ev_30.trans (nI_add _ _)
        refine va_sld hx hb hX hbl hbA hS (vp_in_nI (n := 5 * t + 3) (by omega) (by omega)) d_L_law_219 ?_
        refine lv_topi (fun v_31 ev_31 => ?_)
        obtain rfl : v_31 = xs (5 * t + 3) := ev_31.trans (by rw [nI_clamp (n := 5 * t + 3) (by omega)])
        refine lv_aload_n hx hb d_L_law_220 rfl (lv_at hl 1 rfl) ?_
        refine lv_iload hx hb d_L_law_221 (lv_at hl 0 rfl) ?_
        refine lv_iconst (v := nI 4) hx hb d_L_law_223 (by decide) ?_
        refine lv_iadd hx hb d_L_law_224 ?_
        refine lv_topi (fun v_32 ev_32 => ?_)
        obtain rfl : v_32 = nI (5 * t + 4) := ev_32.trans (nI_add _ _)
        refine va_sld hx hb hX hbl hbA hS (vp_in_nI (n := 5 * t + 4) (by omega) (by omega)) d_L_law_225 ?_
        refine lv_topi (fun v_33 ev_33 => ?_)
        obtain rfl : v_33 = xs (5 * t + 4) := ev_33.trans (by rw [nI_clamp (n := 5 * t + 4) (by omega)])
        refine q_M_pattern hp hx hb hml hown htB hK hP hD hS hA hl.1 (Nat.le_of_ble_eq_true rfl) ⟨by omega, by omega⟩ d_L_law_226 (fun H locs hP hD hS => ?_)
        refine lv_icmp_eq (tgt := 442) hx hb d_L_law_229 (by decide) (fun c_34 => ?_) (fun c_34 => ?_)
        · refine lv_iinc (v := nI (5 * t + 5)) (lv' := [(4, .int (nI (5 * t + 5))), (0, .ref b), (1, .ref x0), (2, .ref m0), (3, .ref qo)]) hx hb d_L_law_442 hl (k := 0) rfl (nI_add _ 5) (by decide) rfl (fun ls hl => ?_)
          refine lv_goto (tgt := 23) hx hb d_L_law_445 (by decide) ?_
          refine W.widen (k := 12 + (t + 1)) (n := 2818 + 6 * (t + 1)) (by omega) (by omega) ?_
          exact ih (t + 1) _ _ _ _ _ _ _ _ _ _ _ _ (by omega) (by omega) ht (teN_le hp) hP hD hS ls (by rw [show 5 * (t + 1) = 5 * t + 5 by omega]; exact lv_sub hl [0, 1, 2, 3, 4] rfl)
        · exact absurd (rfl) c_34
      · refine lv_tableIn (tgt := 234) (off := 195) hx hb d_L_law_39 (by rw [ej]; decide) (by rw [ej]; decide) (by rw [ej]; decide) (by decide) ?_
        refine lv_aload_n hx hb d_L_law_234 rfl (lv_at hl 2 rfl) ?_
        refine q_X_clear  hx hb hml hown htB hK hP hD hS hA hl.1 (Nat.le_of_ble_eq_true rfl) ⟨by omega, by omega⟩ d_L_law_235 (fun H locs hP hD hS => ?_)
        refine lv_aload_n hx hb d_L_law_238 rfl (lv_at hl 3 rfl) ?_
        refine q_M_clear  hx hb hml hown htB hK hP hD hS hA hl.1 (Nat.le_of_ble_eq_true rfl) ⟨by omega, by omega⟩ d_L_law_239 (fun H locs hP hD hS => ?_)
        refine lv_icmp_eq (tgt := 442) hx hb d_L_law_242 (by decide) (fun c_35 => ?_) (fun c_35 => ?_)
        · refine lv_iinc (v := nI (5 * t + 5)) (lv' := [(4, .int (nI (5 * t + 5))), (0, .ref b), (1, .ref x0), (2, .ref m0), (3, .ref qo)]) hx hb d_L_law_442 hl (k := 0) rfl (nI_add _ 5) (by decide) rfl (fun ls hl => ?_)
          refine lv_goto (tgt := 23) hx hb d_L_law_445 (by decide) ?_
          refine W.widen (k := 12 + (t + 1)) (n := 2818 + 6 * (t + 1)) (by omega) (by omega) ?_
          exact ih (t + 1) _ _ _ _ _ _ _ _ _ _ _ _ (by omega) (by omega) (Nat.zero_le _) (Nat.zero_le _) hP hD hS ls (by rw [show 5 * (t + 1) = 5 * t + 5 by omega]; exact lv_sub hl [0, 1, 2, 3, 4] rfl)
        · exact absurd (rfl) c_35
      · refine lv_tableIn (tgt := 247) (off := 208) hx hb d_L_law_39 (by rw [ej]; decide) (by rw [ej]; decide) (by rw [ej]; decide) (by decide) ?_
        refine lv_aload_n hx hb d_L_law_247 rfl (lv_at hl 2 rfl) ?_
        refine q_X_matches hp ht hx hb hml hown htB hK hP hD hS hA hl.1 (Nat.le_of_ble_eq_true rfl) ⟨by omega, by omega⟩ d_L_law_248 (fun u1 H locs hP hD hS => ?_)
        refine lv_aload_n hx hb d_L_law_251 rfl (lv_at hl 3 rfl) ?_
        refine q_M_matches hp ht hx hb hml hown htB hK hP hD hS hA hl.1 (Nat.le_of_ble_eq_true rfl) ⟨by omega, by omega⟩ d_L_law_252 (fun u2 H locs hP hD hS => ?_)
        refine lv_icmp_eq (tgt := 442) hx hb d_L_law_255 (by decide) (fun c_36 => ?_) (fun c_36 => ?_)
        · refine lv_iinc (v := nI (5 * t + 5)) (lv' := [(4, .int (nI (5 * t + 5))), (0, .ref b), (1, .ref x0), (2, .ref m0), (3, .ref qo)]) hx hb d_L_law_442 hl (k := 0) rfl (nI_add _ 5) (by decide) rfl (fun ls hl => ?_)
          refine lv_goto (tgt := 23) hx hb d_L_law_445 (by decide) ?_
          refine W.widen (k := 12 + (t + 1)) (n := 2818 + 6 * (t + 1)) (by omega) (by omega) ?_
          exact ih (t + 1) _ _ _ _ _ _ _ _ _ _ _ _ (by omega) (by omega) ht hp hP hD hS ls (by rw [show 5 * (t + 1) = 5 * t + 5 by omega]; exact lv_sub hl [0, 1, 2, 3, 4] rfl)
        · exact absurd (by rw [mX_mM (Nat.zero_le _) (Nat.le_refl _)]) c_36
      · refine lv_tableIn (tgt := 260) (off := 221) hx hb d_L_law_39 (by rw [ej]; decide) (by rw [ej]; decide) (by rw [ej]; decide) (by decide) ?_
        refine lv_aload_n hx hb d_L_law_260 rfl (lv_at hl 2 rfl) ?_
        refine lv_aload_n hx hb d_L_law_261 rfl (lv_at hl 1 rfl) ?_
        refine lv_iload hx hb d_L_law_262 (lv_at hl 0 rfl) ?_
        refine lv_iconst (v := nI 1) hx hb d_L_law_264 (by decide) ?_
        refine lv_iadd hx hb d_L_law_265 ?_
        refine lv_topi (fun v_37 ev_37 => ?_)
        obtain rfl : v_37 = nI (5 * t + 1) := ev_37.trans (nI_add _ _)
        refine va_sld hx hb hX hbl hbA hS (vp_in_nI (n := 5 * t + 1) (by omega) (by omega)) d_L_law_266 ?_
        refine lv_topi (fun v_38 ev_38 => ?_)
        obtain rfl : v_38 = xs (5 * t + 1) := ev_38.trans (by rw [nI_clamp (n := 5 * t + 1) (by omega)])
        refine lv_aload_n hx hb d_L_law_267 rfl (lv_at hl 1 rfl) ?_
        refine lv_iload hx hb d_L_law_268 (lv_at hl 0 rfl) ?_
        refine lv_iconst (v := nI 2) hx hb d_L_law_270 (by decide) ?_
        refine lv_iadd hx hb d_L_law_271 ?_
        refine lv_topi (fun v_39 ev_39 => ?_)
        obtain rfl : v_39 = nI (5 * t + 2) := ev_39.trans (nI_add _ _)
        refine va_sld hx hb hX hbl hbA hS (vp_in_nI (n := 5 * t + 2) (by omega) (by omega)) d_L_law_272 ?_
        refine lv_topi (fun v_40 ev_40 => ?_)
        obtain rfl : v_40 = xs (5 * t + 2) := ev_40.trans (by rw [nI_clamp (n := 5 * t + 2) (by omega)])
        refine lv_aload_n hx hb d_L_law_273 rfl (lv_at hl 4 rfl) ?_
        refine q_L_part hlt hp ht hZ hx hb hml hown htB hK hP hD hS hA hl.1 (Nat.le_of_ble_eq_true rfl) ⟨by omega, by omega⟩ d_L_law_274 (fun r9 u9 H locs hlp hP hD hS => ?_)
        obtain rfl : r9 = (if okp tn (xs (5 * t + 1)) (xs (5 * t + 2)) = true then nI 0 else nI 1) := lp_val hlp
        refine lv_istore (lv' := [(5, .int (if okp tn (xs (5 * t + 1)) (xs (5 * t + 2)) = true then nI 0 else nI 1)), (4, .int (nI (5 * t))), (0, .ref b), (1, .ref x0), (2, .ref m0), (3, .ref qo)]) hx hb d_L_law_277 hl (by decide) rfl (fun ls hl => ?_)
        refine lv_aload_n hx hb d_L_law_279 rfl (lv_at hl 4 rfl) ?_
        refine lv_aload_n hx hb d_L_law_280 rfl (lv_at hl 2 rfl) ?_
        refine lv_iload hx hb d_L_law_281 (lv_at hl 1 rfl) ?_
        refine lv_iconst (v := nI 1) hx hb d_L_law_283 (by decide) ?_
        refine lv_iadd hx hb d_L_law_284 ?_
        refine lv_topi (fun v_41 ev_41 => ?_)
        obtain rfl : v_41 = nI (5 * t + 1) := ev_41.trans (nI_add _ _)
        refine va_sld hx hb hX hbl hbA hS (vp_in_nI (n := 5 * t + 1) (by omega) (by omega)) d_L_law_285 ?_
        refine lv_topi (fun v_42 ev_42 => ?_)
        obtain rfl : v_42 = xs (5 * t + 1) := ev_42.trans (by rw [nI_clamp (n := 5 * t + 1) (by omega)])
        refine lv_aload_n hx hb d_L_law_286 rfl (lv_at hl 2 rfl) ?_
        refine lv_iload hx hb d_L_law_287 (lv_at hl 1 rfl) ?_
        refine lv_iconst (v := nI 2) hx hb d_L_law_289 (by decide) ?_
        refine lv_iadd hx hb d_L_law_290 ?_
        refine lv_topi (fun v_43 ev_43 => ?_)
        obtain rfl : v_43 = nI (5 * t + 2) := ev_43.trans (nI_add _ _)
        refine va_sld hx hb hX hbl hbA hS (vp_in_nI (n := 5 * t + 2) (by omega) (by omega)) d_L_law_291 ?_
        refine lv_topi (fun v_44 ev_44 => ?_)
        obtain rfl : v_44 = xs (5 * t + 2) := ev_44.trans (by rw [nI_clamp (n := 5 * t + 2) (by omega)])
        refine q_M_part hp ht hx hb hml hown htB hK hP hD hS hA hl.1 (Nat.le_of_ble_eq_true rfl) ⟨by omega, by omega⟩ d_L_law_292 (fun u2 H locs hP hD hS => ?_)
        refine lv_istore (lv' := [(6, .int (if okp tn (xs (5 * t + 1)) (xs (5 * t + 2)) = true then bI (mM tx pt qt pn ((xs (5 * t + 1))).toNatClampNeg ((xs (5 * t + 2))).toNatClampNeg ((xs (5 * t + 2))).toNatClampNeg) else nI 0)), (5, .int (if okp tn (xs (5 * t + 1)) (xs (5 * t + 2)) = true then nI 0 else nI 1)), (4, .int (nI (5 * t))), (0, .ref b), (1, .ref x0), (2, .ref m0), (3, .ref qo)]) hx hb d_L_law_295 hl (by decide) rfl (fun ls hl => ?_)
        refine lv_aload_n hx hb d_L_law_297 rfl (lv_at hl 5 rfl) ?_
        refine q_M_thrown  hx hb hml hown htB hK hP hD hS hA hl.1 (Nat.le_of_ble_eq_true rfl) ⟨by omega, by omega⟩ d_L_law_298 ?_
        refine lv_iload hx hb d_L_law_301 (lv_at hl 1 rfl) ?_
        refine lv_icmp_eq (tgt := 308) hx hb d_L_law_303 (by decide) (fun c_45 => ?_) (fun c_45 => ?_)
        · refine lv_iload hx hb d_L_law_308 (lv_at hl 1 rfl) ?_
          refine lv_if_ne (tgt := 332) hx hb d_L_law_310 (by decide) (fun c_46 => ?_) (fun c_46 => ?_)
          · refine lv_goto (tgt := 442) hx hb d_L_law_332 (by decide) ?_
            refine lv_iinc (v := nI (5 * t + 5)) (lv' := [(4, .int (nI (5 * t + 5))), (6, .int (if okp tn (xs (5 * t + 1)) (xs (5 * t + 2)) = true then bI (mM tx pt qt pn ((xs (5 * t + 1))).toNatClampNeg ((xs (5 * t + 2))).toNatClampNeg ((xs (5 * t + 2))).toNatClampNeg) else nI 0)), (5, .int (if okp tn (xs (5 * t + 1)) (xs (5 * t + 2)) = true then nI 0 else nI 1)), (0, .ref b), (1, .ref x0), (2, .ref m0), (3, .ref qo)]) hx hb d_L_law_442 hl (k := 2) rfl (nI_add _ 5) (by decide) rfl (fun ls hl => ?_)
            refine lv_goto (tgt := 23) hx hb d_L_law_445 (by decide) ?_
            refine W.widen (k := 12 + (t + 1)) (n := 2818 + 6 * (t + 1)) (by omega) (by omega) ?_
            exact ih (t + 1) _ _ _ _ _ _ _ _ _ _ _ _ (by omega) (by omega) ht hp hP hD hS ls (by rw [show 5 * (t + 1) = 5 * t + 5 by omega]; exact lv_sub hl [0, 3, 4, 5, 6] rfl)
          · have hok := cdv_0 c_46
            refine lv_aload_n hx hb d_L_law_313 rfl (lv_at hl 6 rfl) ?_
            refine lv_iconst (v := nI 0) hx hb d_L_law_314 (by decide) ?_
            refine va_lald hx hb hK hP 11 2 rfl rfl (vp_in_nI (n := 0) (by decide) (by decide)) d_L_law_315 ?_
            refine lv_topl (fun w9 ew9 => ?_)
            obtain rfl : w9 = u9.2 0 := ew9.trans (by rw [nI_clamp (n := 0) (by decide)])
            refine lv_iload hx hb d_L_law_316 (lv_at hl 0 rfl) ?_
            refine lv_if_eq (tgt := 325) hx hb d_L_law_318 (by decide) (fun c_47 => ?_) (fun c_47 => ?_)
            · have hov := part_n ht hlp hok c_47
              refine lv_lconst (v := 0) hx hb d_L_law_325 (by decide) ?_
              refine W.lcmp hx hb d_L_law_326 ?_
              refine lv_if_eq (tgt := 332) hx hb d_L_law_327 (by decide) (fun c_48 => ?_) (fun c_48 => ?_)
              · refine lv_goto (tgt := 442) hx hb d_L_law_332 (by decide) ?_
                refine lv_iinc (v := nI (5 * t + 5)) (lv' := [(4, .int (nI (5 * t + 5))), (6, .int (if okp tn (xs (5 * t + 1)) (xs (5 * t + 2)) = true then bI (mM tx pt qt pn ((xs (5 * t + 1))).toNatClampNeg ((xs (5 * t + 2))).toNatClampNeg ((xs (5 * t + 2))).toNatClampNeg) else nI 0)), (5, .int (if okp tn (xs (5 * t + 1)) (xs (5 * t + 2)) = true then nI 0 else nI 1)), (0, .ref b), (1, .ref x0), (2, .ref m0), (3, .ref qo)]) hx hb d_L_law_442 hl (k := 2) rfl (nI_add _ 5) (by decide) rfl (fun ls hl => ?_)
                refine lv_goto (tgt := 23) hx hb d_L_law_445 (by decide) ?_
                refine W.widen (k := 12 + (t + 1)) (n := 2818 + 6 * (t + 1)) (by omega) (by omega) ?_
                exact ih (t + 1) _ _ _ _ _ _ _ _ _ _ _ _ (by omega) (by omega) ht hp hP hD hS ls (by rw [show 5 * (t + 1) = 5 * t + 5 by omega]; exact lv_sub hl [0, 3, 4, 5, 6] rfl)
              · exact absurd ((lg_cmp_eq _ _).mpr hov) c_48
            · have hov := part_y ht hlp hok c_47
              refine lv_lconst (v := 1) hx hb d_L_law_321 (by decide) ?_
              refine lv_goto (tgt := 326) hx hb d_L_law_322 (by decide) ?_
              refine W.lcmp hx hb d_L_law_326 ?_
              refine lv_if_eq (tgt := 332) hx hb d_L_law_327 (by decide) (fun c_49 => ?_) (fun c_49 => ?_)
              · refine lv_goto (tgt := 442) hx hb d_L_law_332 (by decide) ?_
                refine lv_iinc (v := nI (5 * t + 5)) (lv' := [(4, .int (nI (5 * t + 5))), (6, .int (if okp tn (xs (5 * t + 1)) (xs (5 * t + 2)) = true then bI (mM tx pt qt pn ((xs (5 * t + 1))).toNatClampNeg ((xs (5 * t + 2))).toNatClampNeg ((xs (5 * t + 2))).toNatClampNeg) else nI 0)), (5, .int (if okp tn (xs (5 * t + 1)) (xs (5 * t + 2)) = true then nI 0 else nI 1)), (0, .ref b), (1, .ref x0), (2, .ref m0), (3, .ref qo)]) hx hb d_L_law_442 hl (k := 2) rfl (nI_add _ 5) (by decide) rfl (fun ls hl => ?_)
                refine lv_goto (tgt := 23) hx hb d_L_law_445 (by decide) ?_
                refine W.widen (k := 12 + (t + 1)) (n := 2818 + 6 * (t + 1)) (by omega) (by omega) ?_
                exact ih (t + 1) _ _ _ _ _ _ _ _ _ _ _ _ (by omega) (by omega) ht hp hP hD hS ls (by rw [show 5 * (t + 1) = 5 * t + 5 by omega]; exact lv_sub hl [0, 3, 4, 5, 6] rfl)
              · exact absurd ((lg_cmp_eq _ _).mpr hov) c_49
        · exact absurd (rfl) c_45
      · refine lv_tableIn (tgt := 335) (off := 296) hx hb d_L_law_39 (by rw [ej]; decide) (by rw [ej]; decide) (by rw [ej]; decide) (by decide) ?_
        refine lv_aload_n hx hb d_L_law_335 rfl (lv_at hl 2 rfl) ?_
        refine lv_aload_n hx hb d_L_law_336 rfl (lv_at hl 1 rfl) ?_
        refine lv_iload hx hb d_L_law_337 (lv_at hl 0 rfl) ?_
        refine lv_iconst (v := nI 1) hx hb d_L_law_339 (by decide) ?_
        refine lv_iadd hx hb d_L_law_340 ?_
        refine lv_topi (fun v_50 ev_50 => ?_)
        obtain rfl : v_50 = nI (5 * t + 1) := ev_50.trans (nI_add _ _)
        refine va_sld hx hb hX hbl hbA hS (vp_in_nI (n := 5 * t + 1) (by omega) (by omega)) d_L_law_341 ?_
        refine lv_topi (fun v_51 ev_51 => ?_)
        obtain rfl : v_51 = xs (5 * t + 1) := ev_51.trans (by rw [nI_clamp (n := 5 * t + 1) (by omega)])
        refine lv_if_eq (tgt := 349) hx hb d_L_law_342 (by decide) (fun c_52 => ?_) (fun c_52 => ?_)
        · have c_52 := c_52
          refine lv_iconst (v := nI 0) hx hb d_L_law_349 (by decide) ?_
          refine lv_topi (fun v_53 ev_53 => ?_)
          obtain rfl : v_53 = bI false := ev_53.trans rfl
          refine lv_aload_n hx hb d_L_law_350 rfl (lv_at hl 1 rfl) ?_
          refine lv_iload hx hb d_L_law_351 (lv_at hl 0 rfl) ?_
          refine lv_iconst (v := nI 2) hx hb d_L_law_353 (by decide) ?_
          refine lv_iadd hx hb d_L_law_354 ?_
          refine lv_topi (fun v_54 ev_54 => ?_)
          obtain rfl : v_54 = nI (5 * t + 2) := ev_54.trans (nI_add _ _)
          refine va_sld hx hb hX hbl hbA hS (vp_in_nI (n := 5 * t + 2) (by omega) (by omega)) d_L_law_355 ?_
          refine lv_topi (fun v_55 ev_55 => ?_)
          obtain rfl : v_55 = xs (5 * t + 2) := ev_55.trans (by rw [nI_clamp (n := 5 * t + 2) (by omega)])
          refine lv_if_eq (tgt := 363) hx hb d_L_law_356 (by decide) (fun c_56 => ?_) (fun c_56 => ?_)
          · have c_56 := c_56
            refine lv_iconst (v := nI 0) hx hb d_L_law_363 (by decide) ?_
            refine lv_topi (fun v_57 ev_57 => ?_)
            obtain rfl : v_57 = bI false := ev_57.trans rfl
            refine q_X_cut hp ht hx hb hml hown htB hK hP hD hS hA hl.1 (Nat.le_of_ble_eq_true rfl) ⟨by omega, by omega⟩ d_L_law_364 (fun u1 H locs hP hD hS => ?_)
            refine lv_aload_n hx hb d_L_law_367 rfl (lv_at hl 3 rfl) ?_
            refine lv_aload_n hx hb d_L_law_368 rfl (lv_at hl 1 rfl) ?_
            refine lv_iload hx hb d_L_law_369 (lv_at hl 0 rfl) ?_
            refine lv_iconst (v := nI 1) hx hb d_L_law_371 (by decide) ?_
            refine lv_iadd hx hb d_L_law_372 ?_
            refine lv_topi (fun v_58 ev_58 => ?_)
            obtain rfl : v_58 = nI (5 * t + 1) := ev_58.trans (nI_add _ _)
            refine va_sld hx hb hX hbl hbA hS (vp_in_nI (n := 5 * t + 1) (by omega) (by omega)) d_L_law_373 ?_
            refine lv_topi (fun v_59 ev_59 => ?_)
            obtain rfl : v_59 = xs (5 * t + 1) := ev_59.trans (by rw [nI_clamp (n := 5 * t + 1) (by omega)])
            refine lv_if_eq (tgt := 381) hx hb d_L_law_374 (by decide) (fun c_60 => ?_) (fun c_60 => ?_)
            · clear c_60
              refine lv_iconst (v := nI 0) hx hb d_L_law_381 (by decide) ?_
              refine lv_topi (fun v_61 ev_61 => ?_)
              obtain rfl : v_61 = bI false := ev_61.trans rfl
              refine lv_aload_n hx hb d_L_law_382 rfl (lv_at hl 1 rfl) ?_
              refine lv_iload hx hb d_L_law_383 (lv_at hl 0 rfl) ?_
              refine lv_iconst (v := nI 2) hx hb d_L_law_385 (by decide) ?_
              refine lv_iadd hx hb d_L_law_386 ?_
              refine lv_topi (fun v_62 ev_62 => ?_)
              obtain rfl : v_62 = nI (5 * t + 2) := ev_62.trans (nI_add _ _)
              refine va_sld hx hb hX hbl hbA hS (vp_in_nI (n := 5 * t + 2) (by omega) (by omega)) d_L_law_387 ?_
              refine lv_topi (fun v_63 ev_63 => ?_)
              obtain rfl : v_63 = xs (5 * t + 2) := ev_63.trans (by rw [nI_clamp (n := 5 * t + 2) (by omega)])
              refine lv_if_eq (tgt := 395) hx hb d_L_law_388 (by decide) (fun c_64 => ?_) (fun c_64 => ?_)
              · clear c_64
                refine lv_iconst (v := nI 0) hx hb d_L_law_395 (by decide) ?_
                refine lv_topi (fun v_65 ev_65 => ?_)
                obtain rfl : v_65 = bI false := ev_65.trans rfl
                refine q_M_cut hp ht hx hb hml hown htB hK hP hD hS hA hl.1 (Nat.le_of_ble_eq_true rfl) ⟨by omega, by omega⟩ d_L_law_396 (fun u2 H locs hP hD hS => ?_)
                refine lv_icmp_eq (tgt := 442) hx hb d_L_law_399 (by decide) (fun c_66 => ?_) (fun c_66 => ?_)
                · refine lv_iinc (v := nI (5 * t + 5)) (lv' := [(4, .int (nI (5 * t + 5))), (0, .ref b), (1, .ref x0), (2, .ref m0), (3, .ref qo)]) hx hb d_L_law_442 hl (k := 0) rfl (nI_add _ 5) (by decide) rfl (fun ls hl => ?_)
                  refine lv_goto (tgt := 23) hx hb d_L_law_445 (by decide) ?_
                  refine W.widen (k := 12 + (t + 1)) (n := 2818 + 6 * (t + 1)) (by omega) (by omega) ?_
                  exact ih (t + 1) _ _ _ _ _ _ _ _ _ _ _ _ (by omega) (by omega) ht hp hP hD hS ls (by rw [show 5 * (t + 1) = 5 * t + 5 by omega]; exact lv_sub hl [0, 1, 2, 3, 4] rfl)
                · exact absurd (cut_same ht) c_66
              · exact absurd c_56 c_64
            · exact absurd c_52 c_60
          · have c_56 := c_56
            refine lv_iconst (v := nI 1) hx hb d_L_law_359 (by decide) ?_
            refine lv_goto (tgt := 364) hx hb d_L_law_360 (by decide) ?_
            refine lv_topi (fun v_67 ev_67 => ?_)
            obtain rfl : v_67 = bI true := ev_67.trans rfl
            refine q_X_cut hp ht hx hb hml hown htB hK hP hD hS hA hl.1 (Nat.le_of_ble_eq_true rfl) ⟨by omega, by omega⟩ d_L_law_364 (fun u1 H locs hP hD hS => ?_)
            refine lv_aload_n hx hb d_L_law_367 rfl (lv_at hl 3 rfl) ?_
            refine lv_aload_n hx hb d_L_law_368 rfl (lv_at hl 1 rfl) ?_
            refine lv_iload hx hb d_L_law_369 (lv_at hl 0 rfl) ?_
            refine lv_iconst (v := nI 1) hx hb d_L_law_371 (by decide) ?_
            refine lv_iadd hx hb d_L_law_372 ?_
            refine lv_topi (fun v_68 ev_68 => ?_)
            obtain rfl : v_68 = nI (5 * t + 1) := ev_68.trans (nI_add _ _)
            refine va_sld hx hb hX hbl hbA hS (vp_in_nI (n := 5 * t + 1) (by omega) (by omega)) d_L_law_373 ?_
            refine lv_topi (fun v_69 ev_69 => ?_)
            obtain rfl : v_69 = xs (5 * t + 1) := ev_69.trans (by rw [nI_clamp (n := 5 * t + 1) (by omega)])
            refine lv_if_eq (tgt := 381) hx hb d_L_law_374 (by decide) (fun c_70 => ?_) (fun c_70 => ?_)
            · clear c_70
              refine lv_iconst (v := nI 0) hx hb d_L_law_381 (by decide) ?_
              refine lv_topi (fun v_71 ev_71 => ?_)
              obtain rfl : v_71 = bI false := ev_71.trans rfl
              refine lv_aload_n hx hb d_L_law_382 rfl (lv_at hl 1 rfl) ?_
              refine lv_iload hx hb d_L_law_383 (lv_at hl 0 rfl) ?_
              refine lv_iconst (v := nI 2) hx hb d_L_law_385 (by decide) ?_
              refine lv_iadd hx hb d_L_law_386 ?_
              refine lv_topi (fun v_72 ev_72 => ?_)
              obtain rfl : v_72 = nI (5 * t + 2) := ev_72.trans (nI_add _ _)
              refine va_sld hx hb hX hbl hbA hS (vp_in_nI (n := 5 * t + 2) (by omega) (by omega)) d_L_law_387 ?_
              refine lv_topi (fun v_73 ev_73 => ?_)
              obtain rfl : v_73 = xs (5 * t + 2) := ev_73.trans (by rw [nI_clamp (n := 5 * t + 2) (by omega)])
              refine lv_if_eq (tgt := 395) hx hb d_L_law_388 (by decide) (fun c_74 => ?_) (fun c_74 => ?_)
              · exact absurd c_74 c_56
              · clear c_74
                refine lv_iconst (v := nI 1) hx hb d_L_law_391 (by decide) ?_
                refine lv_goto (tgt := 396) hx hb d_L_law_392 (by decide) ?_
                refine lv_topi (fun v_75 ev_75 => ?_)
                obtain rfl : v_75 = bI true := ev_75.trans rfl
                refine q_M_cut hp ht hx hb hml hown htB hK hP hD hS hA hl.1 (Nat.le_of_ble_eq_true rfl) ⟨by omega, by omega⟩ d_L_law_396 (fun u2 H locs hP hD hS => ?_)
                refine lv_icmp_eq (tgt := 442) hx hb d_L_law_399 (by decide) (fun c_76 => ?_) (fun c_76 => ?_)
                · refine lv_iinc (v := nI (5 * t + 5)) (lv' := [(4, .int (nI (5 * t + 5))), (0, .ref b), (1, .ref x0), (2, .ref m0), (3, .ref qo)]) hx hb d_L_law_442 hl (k := 0) rfl (nI_add _ 5) (by decide) rfl (fun ls hl => ?_)
                  refine lv_goto (tgt := 23) hx hb d_L_law_445 (by decide) ?_
                  refine W.widen (k := 12 + (t + 1)) (n := 2818 + 6 * (t + 1)) (by omega) (by omega) ?_
                  exact ih (t + 1) _ _ _ _ _ _ _ _ _ _ _ _ (by omega) (by omega) ht hp hP hD hS ls (by rw [show 5 * (t + 1) = 5 * t + 5 by omega]; exact lv_sub hl [0, 1, 2, 3, 4] rfl)
                · exact absurd (cut_same ht) c_76
            · exact absurd c_52 c_70
        · have c_52 := c_52
          refine lv_iconst (v := nI 1) hx hb d_L_law_345 (by decide) ?_
          refine lv_goto (tgt := 350) hx hb d_L_law_346 (by decide) ?_
          refine lv_topi (fun v_77 ev_77 => ?_)
          obtain rfl : v_77 = bI true := ev_77.trans rfl
          refine lv_aload_n hx hb d_L_law_350 rfl (lv_at hl 1 rfl) ?_
          refine lv_iload hx hb d_L_law_351 (lv_at hl 0 rfl) ?_
          refine lv_iconst (v := nI 2) hx hb d_L_law_353 (by decide) ?_
          refine lv_iadd hx hb d_L_law_354 ?_
          refine lv_topi (fun v_78 ev_78 => ?_)
          obtain rfl : v_78 = nI (5 * t + 2) := ev_78.trans (nI_add _ _)
          refine va_sld hx hb hX hbl hbA hS (vp_in_nI (n := 5 * t + 2) (by omega) (by omega)) d_L_law_355 ?_
          refine lv_topi (fun v_79 ev_79 => ?_)
          obtain rfl : v_79 = xs (5 * t + 2) := ev_79.trans (by rw [nI_clamp (n := 5 * t + 2) (by omega)])
          refine lv_if_eq (tgt := 363) hx hb d_L_law_356 (by decide) (fun c_80 => ?_) (fun c_80 => ?_)
          · have c_80 := c_80
            refine lv_iconst (v := nI 0) hx hb d_L_law_363 (by decide) ?_
            refine lv_topi (fun v_81 ev_81 => ?_)
            obtain rfl : v_81 = bI false := ev_81.trans rfl
            refine q_X_cut hp ht hx hb hml hown htB hK hP hD hS hA hl.1 (Nat.le_of_ble_eq_true rfl) ⟨by omega, by omega⟩ d_L_law_364 (fun u1 H locs hP hD hS => ?_)
            refine lv_aload_n hx hb d_L_law_367 rfl (lv_at hl 3 rfl) ?_
            refine lv_aload_n hx hb d_L_law_368 rfl (lv_at hl 1 rfl) ?_
            refine lv_iload hx hb d_L_law_369 (lv_at hl 0 rfl) ?_
            refine lv_iconst (v := nI 1) hx hb d_L_law_371 (by decide) ?_
            refine lv_iadd hx hb d_L_law_372 ?_
            refine lv_topi (fun v_82 ev_82 => ?_)
            obtain rfl : v_82 = nI (5 * t + 1) := ev_82.trans (nI_add _ _)
            refine va_sld hx hb hX hbl hbA hS (vp_in_nI (n := 5 * t + 1) (by omega) (by omega)) d_L_law_373 ?_
            refine lv_topi (fun v_83 ev_83 => ?_)
            obtain rfl : v_83 = xs (5 * t + 1) := ev_83.trans (by rw [nI_clamp (n := 5 * t + 1) (by omega)])
            refine lv_if_eq (tgt := 381) hx hb d_L_law_374 (by decide) (fun c_84 => ?_) (fun c_84 => ?_)
            · exact absurd c_84 c_52
            · clear c_84
              refine lv_iconst (v := nI 1) hx hb d_L_law_377 (by decide) ?_
              refine lv_goto (tgt := 382) hx hb d_L_law_378 (by decide) ?_
              refine lv_topi (fun v_85 ev_85 => ?_)
              obtain rfl : v_85 = bI true := ev_85.trans rfl
              refine lv_aload_n hx hb d_L_law_382 rfl (lv_at hl 1 rfl) ?_
              refine lv_iload hx hb d_L_law_383 (lv_at hl 0 rfl) ?_
              refine lv_iconst (v := nI 2) hx hb d_L_law_385 (by decide) ?_
              refine lv_iadd hx hb d_L_law_386 ?_
              refine lv_topi (fun v_86 ev_86 => ?_)
              obtain rfl : v_86 = nI (5 * t + 2) := ev_86.trans (nI_add _ _)
              refine va_sld hx hb hX hbl hbA hS (vp_in_nI (n := 5 * t + 2) (by omega) (by omega)) d_L_law_387 ?_
              refine lv_topi (fun v_87 ev_87 => ?_)
              obtain rfl : v_87 = xs (5 * t + 2) := ev_87.trans (by rw [nI_clamp (n := 5 * t + 2) (by omega)])
              refine lv_if_eq (tgt := 395) hx hb d_L_law_388 (by decide) (fun c_88 => ?_) (fun c_88 => ?_)
              · clear c_88
                refine lv_iconst (v := nI 0) hx hb d_L_law_395 (by decide) ?_
                refine lv_topi (fun v_89 ev_89 => ?_)
                obtain rfl : v_89 = bI false := ev_89.trans rfl
                refine q_M_cut hp ht hx hb hml hown htB hK hP hD hS hA hl.1 (Nat.le_of_ble_eq_true rfl) ⟨by omega, by omega⟩ d_L_law_396 (fun u2 H locs hP hD hS => ?_)
                refine lv_icmp_eq (tgt := 442) hx hb d_L_law_399 (by decide) (fun c_90 => ?_) (fun c_90 => ?_)
                · refine lv_iinc (v := nI (5 * t + 5)) (lv' := [(4, .int (nI (5 * t + 5))), (0, .ref b), (1, .ref x0), (2, .ref m0), (3, .ref qo)]) hx hb d_L_law_442 hl (k := 0) rfl (nI_add _ 5) (by decide) rfl (fun ls hl => ?_)
                  refine lv_goto (tgt := 23) hx hb d_L_law_445 (by decide) ?_
                  refine W.widen (k := 12 + (t + 1)) (n := 2818 + 6 * (t + 1)) (by omega) (by omega) ?_
                  exact ih (t + 1) _ _ _ _ _ _ _ _ _ _ _ _ (by omega) (by omega) ht hp hP hD hS ls (by rw [show 5 * (t + 1) = 5 * t + 5 by omega]; exact lv_sub hl [0, 1, 2, 3, 4] rfl)
                · exact absurd (cut_same ht) c_90
              · exact absurd c_80 c_88
          · have c_80 := c_80
            refine lv_iconst (v := nI 1) hx hb d_L_law_359 (by decide) ?_
            refine lv_goto (tgt := 364) hx hb d_L_law_360 (by decide) ?_
            refine lv_topi (fun v_91 ev_91 => ?_)
            obtain rfl : v_91 = bI true := ev_91.trans rfl
            refine q_X_cut hp ht hx hb hml hown htB hK hP hD hS hA hl.1 (Nat.le_of_ble_eq_true rfl) ⟨by omega, by omega⟩ d_L_law_364 (fun u1 H locs hP hD hS => ?_)
            refine lv_aload_n hx hb d_L_law_367 rfl (lv_at hl 3 rfl) ?_
            refine lv_aload_n hx hb d_L_law_368 rfl (lv_at hl 1 rfl) ?_
            refine lv_iload hx hb d_L_law_369 (lv_at hl 0 rfl) ?_
            refine lv_iconst (v := nI 1) hx hb d_L_law_371 (by decide) ?_
            refine lv_iadd hx hb d_L_law_372 ?_
            refine lv_topi (fun v_92 ev_92 => ?_)
            obtain rfl : v_92 = nI (5 * t + 1) := ev_92.trans (nI_add _ _)
            refine va_sld hx hb hX hbl hbA hS (vp_in_nI (n := 5 * t + 1) (by omega) (by omega)) d_L_law_373 ?_
            refine lv_topi (fun v_93 ev_93 => ?_)
            obtain rfl : v_93 = xs (5 * t + 1) := ev_93.trans (by rw [nI_clamp (n := 5 * t + 1) (by omega)])
            refine lv_if_eq (tgt := 381) hx hb d_L_law_374 (by decide) (fun c_94 => ?_) (fun c_94 => ?_)
            · exact absurd c_94 c_52
            · clear c_94
              refine lv_iconst (v := nI 1) hx hb d_L_law_377 (by decide) ?_
              refine lv_goto (tgt := 382) hx hb d_L_law_378 (by decide) ?_
              refine lv_topi (fun v_95 ev_95 => ?_)
              obtain rfl : v_95 = bI true := ev_95.trans rfl
              refine lv_aload_n hx hb d_L_law_382 rfl (lv_at hl 1 rfl) ?_
              refine lv_iload hx hb d_L_law_383 (lv_at hl 0 rfl) ?_
              refine lv_iconst (v := nI 2) hx hb d_L_law_385 (by decide) ?_
              refine lv_iadd hx hb d_L_law_386 ?_
              refine lv_topi (fun v_96 ev_96 => ?_)
              obtain rfl : v_96 = nI (5 * t + 2) := ev_96.trans (nI_add _ _)
              refine va_sld hx hb hX hbl hbA hS (vp_in_nI (n := 5 * t + 2) (by omega) (by omega)) d_L_law_387 ?_
              refine lv_topi (fun v_97 ev_97 => ?_)
              obtain rfl : v_97 = xs (5 * t + 2) := ev_97.trans (by rw [nI_clamp (n := 5 * t + 2) (by omega)])
              refine lv_if_eq (tgt := 395) hx hb d_L_law_388 (by decide) (fun c_98 => ?_) (fun c_98 => ?_)
              · exact absurd c_98 c_80
              · clear c_98
                refine lv_iconst (v := nI 1) hx hb d_L_law_391 (by decide) ?_
                refine lv_goto (tgt := 396) hx hb d_L_law_392 (by decide) ?_
                refine lv_topi (fun v_99 ev_99 => ?_)
                obtain rfl : v_99 = bI true := ev_99.trans rfl
                refine q_M_cut hp ht hx hb hml hown htB hK hP hD hS hA hl.1 (Nat.le_of_ble_eq_true rfl) ⟨by omega, by omega⟩ d_L_law_396 (fun u2 H locs hP hD hS => ?_)
                refine lv_icmp_eq (tgt := 442) hx hb d_L_law_399 (by decide) (fun c_100 => ?_) (fun c_100 => ?_)
                · refine lv_iinc (v := nI (5 * t + 5)) (lv' := [(4, .int (nI (5 * t + 5))), (0, .ref b), (1, .ref x0), (2, .ref m0), (3, .ref qo)]) hx hb d_L_law_442 hl (k := 0) rfl (nI_add _ 5) (by decide) rfl (fun ls hl => ?_)
                  refine lv_goto (tgt := 23) hx hb d_L_law_445 (by decide) ?_
                  refine W.widen (k := 12 + (t + 1)) (n := 2818 + 6 * (t + 1)) (by omega) (by omega) ?_
                  exact ih (t + 1) _ _ _ _ _ _ _ _ _ _ _ _ (by omega) (by omega) ht hp hP hD hS ls (by rw [show 5 * (t + 1) = 5 * t + 5 by omega]; exact lv_sub hl [0, 1, 2, 3, 4] rfl)
                · exact absurd (cut_same ht) c_100
      · refine lv_tableIn (tgt := 404) (off := 365) hx hb d_L_law_39 (by rw [ej]; decide) (by rw [ej]; decide) (by rw [ej]; decide) (by decide) ?_
        refine lv_aload_n hx hb d_L_law_404 rfl (lv_at hl 2 rfl) ?_
        refine q_X_isSpecial hp hx hb hml hown htB hK hP hD hS hA hl.1 (Nat.le_of_ble_eq_true rfl) ⟨by omega, by omega⟩ d_L_law_405 ?_
        refine lv_aload_n hx hb d_L_law_408 rfl (lv_at hl 3 rfl) ?_
        refine q_M_isSpecial hp hx hb hml hown htB hK hP hD hS hA hl.1 (Nat.le_of_ble_eq_true rfl) ⟨by omega, by omega⟩ d_L_law_409 (fun H locs hP hD hS => ?_)
        refine lv_icmp_eq (tgt := 442) hx hb d_L_law_412 (by decide) (fun c_101 => ?_) (fun c_101 => ?_)
        · refine lv_iinc (v := nI (5 * t + 5)) (lv' := [(4, .int (nI (5 * t + 5))), (0, .ref b), (1, .ref x0), (2, .ref m0), (3, .ref qo)]) hx hb d_L_law_442 hl (k := 0) rfl (nI_add _ 5) (by decide) rfl (fun ls hl => ?_)
          refine lv_goto (tgt := 23) hx hb d_L_law_445 (by decide) ?_
          refine W.widen (k := 12 + (t + 1)) (n := 2818 + 6 * (t + 1)) (by omega) (by omega) ?_
          exact ih (t + 1) _ _ _ _ _ _ _ _ _ _ _ _ (by omega) (by omega) ht hp hP hD hS ls (by rw [show 5 * (t + 1) = 5 * t + 5 by omega]; exact lv_sub hl [0, 1, 2, 3, 4] rfl)
        · exact absurd (rfl) c_101
      · refine lv_tableIn (tgt := 417) (off := 378) hx hb d_L_law_39 (by rw [ej]; decide) (by rw [ej]; decide) (by rw [ej]; decide) (by decide) ?_
        refine lv_aload_n hx hb d_L_law_417 rfl (lv_at hl 2 rfl) ?_
        refine lv_aload_n hx hb d_L_law_418 rfl (lv_at hl 1 rfl) ?_
        refine lv_iload hx hb d_L_law_419 (lv_at hl 0 rfl) ?_
        refine lv_iconst (v := nI 1) hx hb d_L_law_421 (by decide) ?_
        refine lv_iadd hx hb d_L_law_422 ?_
        refine lv_topi (fun v_102 ev_102 => ?_)
        obtain rfl : v_102 = nI (5 * t + 1) := ev_102.trans (nI_add _ _)
        refine va_sld hx hb hX hbl hbA hS (vp_in_nI (n := 5 * t + 1) (by omega) (by omega)) d_L_law_423 ?_
        refine lv_topi (fun v_103 ev_103 => ?_)
        obtain rfl : v_103 = xs (5 * t + 1) := ev_103.trans (by rw [nI_clamp (n := 5 * t + 1) (by omega)])
        refine q_X_count hp hx hb hml hown htB hK hP hD hS hA hl.1 (Nat.le_of_ble_eq_true rfl) ⟨by omega, by omega⟩ d_L_law_424 ?_
        refine lv_aload_n hx hb d_L_law_427 rfl (lv_at hl 3 rfl) ?_
        refine lv_aload_n hx hb d_L_law_428 rfl (lv_at hl 1 rfl) ?_
        refine lv_iload hx hb d_L_law_429 (lv_at hl 0 rfl) ?_
        refine lv_iconst (v := nI 1) hx hb d_L_law_431 (by decide) ?_
        refine lv_iadd hx hb d_L_law_432 ?_
        refine lv_topi (fun v_104 ev_104 => ?_)
        obtain rfl : v_104 = nI (5 * t + 1) := ev_104.trans (nI_add _ _)
        refine va_sld hx hb hX hbl hbA hS (vp_in_nI (n := 5 * t + 1) (by omega) (by omega)) d_L_law_433 ?_
        refine lv_topi (fun v_105 ev_105 => ?_)
        obtain rfl : v_105 = xs (5 * t + 1) := ev_105.trans (by rw [nI_clamp (n := 5 * t + 1) (by omega)])
        refine q_M_count hp hx hb hml hown htB hK hP hD hS hA hl.1 (Nat.le_of_ble_eq_true rfl) ⟨by omega, by omega⟩ d_L_law_434 (fun H locs hP hD hS => ?_)
        refine lv_icmp_eq (tgt := 442) hx hb d_L_law_437 (by decide) (fun c_106 => ?_) (fun c_106 => ?_)
        · refine lv_iinc (v := nI (5 * t + 5)) (lv' := [(4, .int (nI (5 * t + 5))), (0, .ref b), (1, .ref x0), (2, .ref m0), (3, .ref qo)]) hx hb d_L_law_442 hl (k := 0) rfl (nI_add _ 5) (by decide) rfl (fun ls hl => ?_)
          refine lv_goto (tgt := 23) hx hb d_L_law_445 (by decide) ?_
          refine W.widen (k := 12 + (t + 1)) (n := 2818 + 6 * (t + 1)) (by omega) (by omega) ?_
          exact ih (t + 1) _ _ _ _ _ _ _ _ _ _ _ _ (by omega) (by omega) ht hp hP hD hS ls (by rw [show 5 * (t + 1) = 5 * t + 5 by omega]; exact lv_sub hl [0, 1, 2, 3, 4] rfl)
        · exact absurd (rfl) c_106

set_option maxHeartbeats 4000000 in
set_option maxRecDepth 100000 in
theorem whole_start {p : Program} {e : Env} {s : State} {m : MethodId} {below : List Frame} {meth : Method} {c : Code} (l : Launch) (hlt : l.stackTraces = false) {b L : Nat} {xs : Nat → Int32} (hL : L ≤ 2560) (C0 : lw_At p s m meth c b L xs) : W p l e room_1 s m #[Value.ref b] below meth c s.heap [] 0 0 (lw_Z below #[Value.ref b] s) (entryFrame m ([Value.ref b] : List Value).toArray 7) := by
  obtain ⟨hx, hb, hr, hml, hown, hts, hX, hbl, hlocks, hgv⟩ := id C0
  have htB : ∀ w ∈ wB, w.before #[Value.ref b] s = true := fun w h => hts w (wB_tbl w h)
  have hA : ∀ q : Nat, s.heap.size ≤ q → (fun q : Nat => s.heap.size ≤ q) q := fun _ h => h
  have hflat := flat_of_before _ hgv
  have hnA : ∀ a : Nat, a < s.heap.size → ¬ (fun q : Nat => s.heap.size ≤ q) a := fun a h => Nat.not_le.mpr h
  obtain ⟨sa, c8, cA8, kA8, q1, -⟩ := Cond.exactly_spec (args := #[Value.ref b]) (first := s) (o := none) (s := s) (idx := []) (t := .string "NamePattern" 44) (cls := "java/lang/String") (hflat _ (by decide +kernel))
  have hZ : eX sa (fun q : Nat => s.heap.size ≤ q) s s.heap := ⟨vk_R.of (hts (.stringRef R_X 44 eT) (by decide +kernel)) q1, ⟨va_Nw.of rfl (hts (.declares (Bundle.initS "java/lang/RuntimeException")) (by decide +kernel)), va_Nw.of rfl (hts (.declares (Bundle.initS "java/lang/Exception")) (by decide +kernel)), va_Nw.of rfl (hts (.declares (Bundle.initS Bundle.tN)) (by decide +kernel)), va_Nw.of rfl (hts (.castable eN eN) (by decide +kernel))⟩, vx_Zqof (hts (.laysStatic Bundle.tN "UNASSIGNED_STACK" Bundle.steD) (by decide +kernel)) (htB _ hini_Throwable) (hflat _ (by decide +kernel)) hnA, vx_Zqof (hts (.laysStatic Bundle.tN "SUPPRESSED_SENTINEL" Bundle.listD) (by decide +kernel)) (htB _ hini_Throwable) (hflat _ (by decide +kernel)) hnA⟩
  obtain ⟨c0, iS0, hKn0⟩ := u_known (C := R_X) (T := F_X) (N := 6) (n := 6) htB in_X (htB _ hins_X)
  obtain ⟨c1, iS1, hKn1⟩ := u_known (C := R_M) (T := F_M) (N := 8) (n := 8) htB in_M (htB _ hins_M)
  obtain ⟨dC, dI, hKc⟩ : ∃ (dC : Nat → ClassId) (dI : Nat → Nat → Nat), ∀ (k : Nat) (q : vw_C), classes[k]? = some q → u_Kn s q.1 q.2.1 q.2.2 (dC k) (dI k) := by
    refine ⟨fun k => if k = 0 then c0 else c1, fun k => if k = 0 then iS0 else iS1, ?_⟩
    intro k q hq
    match k, hq with
    | 0, hq => cases hq; exact hKn0
    | 1, hq => cases hq; exact hKn1
    | k + 2, hq => simp [classes] at hq
  have hS : va_S (fun q : Nat => s.heap.size ≤ q) s.heap s.heap [] := va_S.rf
  have hK : va_K (dC, dI) classes [] s := ⟨hKc, fun k q h => by simp at h⟩
  have hP : va_P (dC, dI) classes [] s.heap := fun k q h => by simp at h
  have hD : va_D (fun q : Nat => s.heap.size ≤ q) [] := ⟨fun i j p q h => by simp at h, fun k q h => by simp at h⟩
  have hl := lv_entry ([.ref b]) (n := 7) (Nat.le_of_ble_eq_true rfl)
  rw [lg_entry_eq]
  generalize (lg_sl ([.ref b]) ++ List.replicate (7 - (lg_sl ([.ref b])).length) Slot.unset).toArray = ls at hl ⊢
  have hl : lv_has ls 7 [(0, .ref b)] := hl
  refine va_new (ci := 0) (fs := [.null, .int (nI 0), .null, .null, .int (nI 0), .null]) (C := R_X) (T := F_X) (N := 6) hx hb htB in_X t_X t_X_ok hown (htB _ hcl_L_8) (htB _ hins_X) (htB _ hini_X) hK hP hD hS hA rfl (fun j hj => by rcases (show j = 0 ∨ j = 1 ∨ j = 2 ∨ j = 3 ∨ j = 4 ∨ j = 5 by omega) with rfl | rfl | rfl | rfl | rfl | rfl <;> rfl) (Nat.le_of_ble_eq_true rfl) (Nat.le_of_ble_eq_true rfl) d_L_law_0 (fun x0 H hP hD hS => ?_)
  have hP : va_P (dC, dI) classes [(x0, .inr (0, [.null, .int (nI 0), .null, .null, .int (nI 0), .null]))] H := hP
  have hD : va_D (fun q : Nat => s.heap.size ≤ q) [(x0, .inr (0, [.null, .int (nI 0), .null, .null, .int (nI 0), .null]))] := hD
  refine W.widen (k := 1) (n := 6) (Nat.le_of_ble_eq_true rfl) (Nat.le_of_ble_eq_true rfl) ?_
  refine lv_dup hx hb d_L_law_3 rfl ?_
  have hFc := va_free (wc := [(x0, .inr (0, [.null, .int (nI 0), .null, .null, .int (nI 0), .null]))]) hD hS hA [0] rfl
  refine va_callv (va_runI (As := []) (rest := [.ref x0]) ⟨hx, hb, hml, hown, htB⟩ (c_X_init l dC dI x0 H.size) (cwI 0 htB (gB hco_X_init) rfl rfl rfl (htB _ hini_X) (htB _ hml_L_15) (htB _ hinm_X_init) rfl (by decide +kernel) ⟨Nat.le_of_ble_eq_true rfl, Nat.le_of_ble_eq_true rfl⟩) ⟨fun a U g mk q => by obtain ⟨q0, q1, qP, qK, qD⟩ := q; exact ⟨q0, q1, qP, va_K.moved (u := U) (U := U.calling g mk a) (Vm.Alike.refl U.vm) qK, qD⟩, fun U hU hW => ⟨rfl, by rw [hU], by rw [hU]; exact hP, va_K.moved hW.alike hK, hD.weaken (fun _ _ _ _ => trivial)⟩⟩ rfl rfl hl.1 rfl (lv_room (Nat.le_of_ble_eq_true rfl)) d_L_law_4 ⟨Nat.le_of_ble_eq_true rfl, Nat.le_of_ble_eq_true rfl⟩) hS (fun q _ h => hFc q h) hFc (fun u t H1 locs ht hvm hw hB hz1 hk1 hS => ?_)
  obtain ⟨x1, x2, x3, x4, cI, cZ, hP1, hK1, hD1⟩ := hB
  rw [ht] at hP1
  have hK1 := va_K.moved hvm.symm hK1
  obtain ⟨hP, hD⟩ := va_join (wr := []) (w1 := (wX x0 x1 x2 x3 x4 cI cZ (fun _ => 0) (fun _ => 0) (fun _ => 0) (fun _ => 0) 0 0)) hP hD [0] [] rfl rfl (by decide) (by decide) hk1 hFc hP1 hD1
  have hK : va_K (dC, dI) classes (tyIZ cI cZ) s := hK1
  generalize H1 = H at hP hS ⊢
  have hP : va_P (dC, dI) classes (wX x0 x1 x2 x3 x4 cI cZ (fun _ => 0) (fun _ => 0) (fun _ => 0) (fun _ => 0) 0 0) H := hP
  have hD : va_D (fun q : Nat => s.heap.size ≤ q) (wX x0 x1 x2 x3 x4 cI cZ (fun _ => 0) (fun _ => 0) (fun _ => 0) (fun _ => 0) 0 0) := hD
  refine W.widen (k := 5) (n := 1207) (Nat.le_of_ble_eq_true rfl) (Nat.le_of_ble_eq_true rfl) ?_
  refine lv_astore_n (lv' := [(1, .ref x0), (0, .ref b)]) hx hb d_L_law_7 rfl hl (by decide) rfl (fun ls hl => ?_)
  refine va_new (ci := 1) (fs := [.int (nI 0), .null, .null, .null, .int (nI 0), .int (nI 0), .null, .null]) (C := R_M) (T := F_M) (N := 8) hx hb htB in_M t_M t_M_ok hown (htB _ hcl_L_16) (htB _ hins_M) (htB _ hini_M) hK hP hD hS hA rfl (fun j hj => by rcases (show j = 0 ∨ j = 1 ∨ j = 2 ∨ j = 3 ∨ j = 4 ∨ j = 5 ∨ j = 6 ∨ j = 7 by omega) with rfl | rfl | rfl | rfl | rfl | rfl | rfl | rfl <;> rfl) (Nat.le_of_ble_eq_true rfl) (Nat.le_of_ble_eq_true rfl) d_L_law_8 (fun m0 H hP hD hS => ?_)
  have hP : va_P (dC, dI) classes ((wX x0 x1 x2 x3 x4 cI cZ (fun _ => 0) (fun _ => 0) (fun _ => 0) (fun _ => 0) 0 0) ++ [(m0, .inr (1, [.int (nI 0), .null, .null, .null, .int (nI 0), .int (nI 0), .null, .null]))]) H := hP
  have hD : va_D (fun q : Nat => s.heap.size ≤ q) ((wX x0 x1 x2 x3 x4 cI cZ (fun _ => 0) (fun _ => 0) (fun _ => 0) (fun _ => 0) 0 0) ++ [(m0, .inr (1, [.int (nI 0), .null, .null, .null, .int (nI 0), .int (nI 0), .null, .null]))]) := hD
  refine W.widen (k := 6) (n := 1215) (Nat.le_of_ble_eq_true rfl) (Nat.le_of_ble_eq_true rfl) ?_
  refine lv_dup hx hb d_L_law_11 rfl ?_
  have hPc := hP.sub (ws' := [(m0, .inr (1, [.int (nI 0), .null, .null, .null, .int (nI 0), .int (nI 0), .null, .null]))]) [5] rfl
  have hDc := hD.sub (ws' := [(m0, .inr (1, [.int (nI 0), .null, .null, .null, .int (nI 0), .int (nI 0), .null, .null]))]) [5] (by decide) rfl
  have hKe := hK.sub (tys' := []) [] rfl
  have hFc := va_free (wc := [(m0, .inr (1, [.int (nI 0), .null, .null, .null, .int (nI 0), .int (nI 0), .null, .null]))]) hD hS hA [5] rfl
  refine va_callv (va_runI (As := []) (rest := [.ref m0]) ⟨hx, hb, hml, hown, htB⟩ (c_M_init l dC dI m0 H.size) (cwI 0 htB (gB hco_M_init) rfl rfl rfl (htB _ hini_M) (htB _ hml_L_18) (htB _ hinm_M_init) rfl (by decide +kernel) ⟨Nat.le_of_ble_eq_true rfl, Nat.le_of_ble_eq_true rfl⟩) ⟨fun a U g mk q => by obtain ⟨q0, q1, qP, qK, qD⟩ := q; exact ⟨q0, q1, qP, va_K.moved (u := U) (U := U.calling g mk a) (Vm.Alike.refl U.vm) qK, qD⟩, fun U hU hW => ⟨rfl, by rw [hU], by rw [hU]; exact hPc, va_K.moved hW.alike hKe, hDc.weaken (fun _ _ _ _ => trivial)⟩⟩ rfl rfl hl.1 rfl (lv_room (Nat.le_of_ble_eq_true rfl)) d_L_law_12 ⟨Nat.le_of_ble_eq_true rfl, Nat.le_of_ble_eq_true rfl⟩) hS (fun q _ h => hFc q h) hFc (fun u t H1 locs ht hvm hw hB hz1 hk1 hS => ?_)
  obtain ⟨m1, m2, m3, m4, m5, cI2, cZ2, hP1, hK1, hD1⟩ := hB
  rw [ht] at hP1
  have hK1 := va_K.moved hvm.symm hK1
  obtain rfl : cI = cI2 := Option.some.inj ((hK.2 0 _ rfl).2.symm.trans (hK1.2 0 _ rfl).2)
  obtain rfl : cZ = cZ2 := Option.some.inj ((hK.2 1 _ rfl).2.symm.trans (hK1.2 1 _ rfl).2)
  obtain ⟨hP, hD⟩ := va_join (wr := (wX x0 x1 x2 x3 x4 cI cZ (fun _ => 0) (fun _ => 0) (fun _ => 0) (fun _ => 0) 0 0)) (w1 := (wM m0 m1 m2 m3 m4 m5 cI cZ (nI 0) (fun _ => 0) (fun _ => 0) (fun _ => 0) (fun _ => 0) (fun _ => 0) 0 0)) hP hD [5] [0, 1, 2, 3, 4] rfl rfl (by decide) (by decide) hk1 hFc hP1 hD1
  generalize H1 = H at hP hS ⊢
  refine W.widen (k := 11) (n := 2817) (Nat.le_of_ble_eq_true rfl) (Nat.le_of_ble_eq_true rfl) ?_
  refine lv_astore_n (lv' := [(2, .ref m0), (1, .ref x0), (0, .ref b)]) hx hb d_L_law_15 rfl hl (by decide) rfl (fun ls hl => ?_)
  refine lv_iconst (v := nI 1) hx hb d_L_law_16 (by decide) ?_
  refine va_newa (atype := .long) (ty := .long) (a0 := (1, .inr (.inl (fun _ => 0)))) hx hb (htB _ har_long) rfl hK hP hD hS hA (fun _ => rfl) (by decide) (by decide) (by decide) (Nat.le_of_ble_eq_true rfl) (Nat.le_of_ble_eq_true rfl) d_L_law_17 (fun qo cJ H hK hP hD hS => ?_)
  have hK : va_K (dC, dI) classes (tyJ cI cZ cJ) s := hK
  have hP := hP.sub (ws' := (wLw x0 x1 x2 x3 x4 m0 m1 m2 m3 m4 m5 qo cI cZ cJ (fun _ => 0) (fun _ => 0) (fun _ => 0) (fun _ => 0) 0 0 (nI 0) (fun _ => 0) (fun _ => 0) (fun _ => 0) (fun _ => 0) (fun _ => 0) 0 0 (fun _ => 0))) [0, 1, 2, 3, 4, 5, 6, 7, 8, 9, 10, 11] rfl
  have hD := hD.sub (ws' := (wLw x0 x1 x2 x3 x4 m0 m1 m2 m3 m4 m5 qo cI cZ cJ (fun _ => 0) (fun _ => 0) (fun _ => 0) (fun _ => 0) 0 0 (nI 0) (fun _ => 0) (fun _ => 0) (fun _ => 0) (fun _ => 0) (fun _ => 0) 0 0 (fun _ => 0))) [0, 1, 2, 3, 4, 5, 6, 7, 8, 9, 10, 11] (by decide) rfl
  refine W.widen (k := 12 + 0) (n := 2818 + 6 * 0) (Nat.le_of_ble_eq_true rfl) (Nat.le_of_ble_eq_true rfl) ?_
  refine lv_astore_n (lv' := [(3, .ref qo), (2, .ref m0), (1, .ref x0), (0, .ref b)]) hx hb d_L_law_19 rfl hl (by decide) rfl (fun ls hl => ?_)
  refine lv_iconst (v := nI 0) hx hb d_L_law_20 (by decide) ?_
  refine lv_istore (lv' := [(4, .int (nI 0)), (3, .ref qo), (2, .ref m0), (1, .ref x0), (0, .ref b)]) hx hb d_L_law_21 hl (by decide) rfl (fun ls hl => ?_)
  exact law_loop hlt hL C0 hZ hK (L + 1) 0 _ _ _ _ _ _ _ _ _ _ _ _ (Nat.zero_le _) (by omega) (Nat.zero_le _) (Nat.zero_le _) hP hD hS ls (lv_sub hl [0, 4, 3, 2, 1] rfl)

set_option maxHeartbeats 4000000 in
theorem lw_walk (l : Launch) (hlt : l.stackTraces = false) (b : Addr) (xs : List Int32) : MetFree l x (headSpec (Jvm.Cond.code x code maxLocals ret :: tables_1) room_1) (lw_P b xs) (fun _ _ _ _ _ => True) lw_Q := by
  refine MetFree.of_bodyS (code := code) (maxLocals := maxLocals) (ret := ret) (by decide) ?_ ?_
  · intro args s m h hn
    obtain ⟨meth, c, h1, h2, h3, h4, h5, h6, -, -⟩ := Cond.code_spec hn (atoms_spec (ws := Jvm.Cond.code x code maxLocals ret :: tables_1) h _ List.mem_cons_self)
    exact ⟨meth, c, h1, h2, h3, h4, h5, h6⟩
  · intro p e s m args below meth c s₁ B hml0 hP _
    obtain ⟨rfl, hx, hbd, hgv⟩ := hP
    obtain ⟨scr, harrAt, hlist, hof, hsmall⟩ := hx
    obtain ⟨hcb, hkn, -, -⟩ := State.arrayAt?_spec harrAt
    have hown : s.vm.findClass R_law = some m.cls := findClass_of_methodNamed B.named
    have hts0 : ∀ c ∈ (Jvm.Cond.code x code maxLocals ret :: tables_1), c.before #[Value.ref b] s = true := atoms_spec (ws := Jvm.Cond.code x code maxLocals ret :: tables_1) B.pre
    have hts : ∀ w ∈ lw_tbl, w.before #[Value.ref b] s = true := k2_hts_sels lw_privs (fun w hw => hts0 w (List.mem_cons_of_mem _ hw)) lw_privs_ok
    have hml : c.maxLocals = 7 := B.maxLocals_eq (hts0 _ List.mem_cons_self)
    have X₀ : Stand p l e room_1 s m #[Value.ref b] below meth c s₁ [] 0 0 := Stand.of_body B
    have hh0 : s₁.heap = s.heap := by rw [B.state]; rfl
    have hsz : scr.slots.size = xs.length := by rw [← Array.length_toList, hlist, List.length_map]
    have hval : ∀ j : Nat, j < xs.length → scr.slots[j]? = some (.int (xs.getD j 0)) := fun j hj => by
      rw [← Array.getElem?_toList, hlist]
      simp [hj]
    have hbl : b < s.heap.size := (Array.getElem?_eq_some_iff.mp hcb).1
    have hX : va_X b xs.length (fun j => xs.getD j 0) s s.heap := ⟨scr, hcb, hof, hkn, hsz, hval⟩
    have K : W p l e room_1 s m #[Value.ref b] below meth c s₁.heap [] 0 0 (lw_Z below #[Value.ref b] s) (entryFrame m ([Value.ref b] : List Value).toArray 7) := by
      rw [hh0]
      exact whole_start l hlt hbd ⟨B.exec, B.bytes, B.returns, hml, hown, hts, hX, hbl, B.notSynchronized, hgv⟩
    obtain ⟨t, a1, o, b1, b2, b3⟩ := K s₁ rfl X₀
    exact ⟨t, o, a1, b1, b2, b3⟩
theorem lw_pre_spec {args : Array Value} {s : State} (h : (Jvm.Cond.and given_1 narrow_1).before args s = true) (hr : rest_1_c.before args s = true) : ∃ (b : Addr) (xs : List Int32), lw_P b xs args s := by
  have hs := flat_of_before _ h
  have hq := flat_of_before _ hr
  have hc : (Cond.count 1).before args s = true := hs _ (by decide +kernel)
  have harr : (Cond.arrayOf (.arg 0) .int).before args s = true := hs _ (by decide +kernel)
  have hle : (Cond.le (.length (.arg 0)) (.int 2560)).before args s = true := hs _ (by decide +kernel)
  have hlen : (Cond.isInt (.length (.arg 0))).before args s = true := hq _ (by decide +kernel)
  have hall : (Cond.all (.arg 0) (.isInt (.elem (.arg 0) (.index 0)))).before args s = true := hq _ (by decide +kernel)
  obtain ⟨b, xs, hb, hx⟩ := State.ints_of_pre rfl harr hlen hall
  have hsm : xs.length < 2 ^ 31 := hx.choose_spec.2.2.2
  have hev : (Term.length (.arg 0)).eval args s none [] s = some (.int xs.length.toInt32) := hx.length_eval hb
  have hv := Cond.le_ints hev (show (Term.int 2560).eval args s none [] s = some (.int 2560) from rfl)
  have hd : xs.length.toInt32 ≤ 2560 := by
    simpa [Cond.before, Cond.holds, hv] using hle
  have hN : xs.length ≤ 2560 := (Int32.ofNat_le_ofNat hsm (by decide)).mp (show Int32.ofNat xs.length ≤ Int32.ofNat 2560 from hd)
  exact ⟨b, xs, Cond.one_arg hc (show args[0]? = some (.ref b) from hb), hx, hN, h⟩
theorem lw_comes (l : Launch) (hlt : l.stackTraces = false) : Comes l x (Jvm.Cond.code x code maxLocals ret :: tables_1) room_1 (fun tb e args s => Calls_1 tb e args s ∧ rest_1 tb e args s ∧ Pre_1 tb e args s)
    (fun _ _ args s o t => lw_Q args s o t) := by
  intro p e ha hc hk s m args below hf hfit hheap happ hpre
  obtain ⟨b, xs, hP⟩ := lw_pre_spec hpre.2.2 hpre.2.1
  obtain ⟨k, o, h1, h2, h3, hQ⟩ := lw_walk l hlt b xs p e ha hc hk s m args below hf ((Spec.applies_iff_loose hf).mp happ).1 hP trivial
  exact ⟨k, o, h1, h2, h3, hQ⟩
theorem lw_frame {s t : State} {o : Outcome} {args : Array Value} (h : Framed s o t [] 1037 11016) :
    Framed s o t (fieldLocs frame_1_writes args s ++ arrayLocs frame_1_arrays args s ++ staticLocs frame_1_statics s) 1037 11016 := h
theorem lw_limb (L : Cond) (hL : ∀ (args : Array Value) (s t : State), L.after args s (.returned (some (.int 1))) t = true) :
    ArmFor flags0 classFile x code maxLocals ret World_1 tables_1 room_1 Calls_1 rest_1 Pre_1
      (fun tb e a s o t => postC L tb e a s o t ∧ Framed s o t (fieldLocs frame_1_writes a s ++ arrayLocs frame_1_arrays a s ++ staticLocs frame_1_statics s) 1037 11016) := by
  intro l hfl _ _ p e ha hc hk s m args below hf hfit hheap happ hpre
  have hlt : l.stackTraces = false := by unfold Launch.stackTraces; rw [hfl]; decide +kernel
  obtain ⟨k, o, h1, h2, h3, rfl, hF⟩ := lw_comes l hlt p e ha hc hk s m args below hf hfit hheap happ hpre
  exact ⟨k, _, h1, h2, h3, hL args s _, lw_frame hF⟩
theorem i_vc : Claimed_1_1 ∧ Claimed_1_2 := ⟨lw_limb limb_1_1 (fun args s t => by simp [limb_1_1, Cond.after, Cond.holds, Cond.value]), lw_limb limb_1_2 (fun args s t => Cond.after_iff.mpr (by
  first | (rw [show limb_1_2 = Cond.eq .result (.int 1) from rfl, Cond.eq_ints (x := 1) (y := 1) rfl rfl]; simp; done) | (simp [limb_1_2, Cond.value, Term.eval]; done)))⟩
end
