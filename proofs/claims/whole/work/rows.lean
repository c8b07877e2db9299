section
-- ===== PART A: goes FIRST, ahead of the names: the tables' words, and 'selects' of the private methods out of them =====
/-- a private method of a class that the tables say can be made, by its rows of tables_1 -/
def lw_okq (q : MethodName × Nat) : Prop := (q.1.cls ≠ "java/lang/invoke/MethodHandle" ∧ q.1.cls ≠ "java/lang/invoke/VarHandle") ∧ Cond.instantiable q.1.cls q.2 ∈ tables_1 ∧ Cond.privateMethod q.1 ∈ tables_1 ∧ Cond.instanceMethod q.1 ∈ tables_1
theorem lw_p0 : lw_okq (⟨"DrawShares", "needShare", "(I)V"⟩, 6) := ⟨⟨by decide +kernel, by decide +kernel⟩, List.mem_of_getElem? (i := 15) (by decide +kernel), List.mem_of_getElem? (i := 155) (by decide +kernel), List.mem_of_getElem? (i := 156) (by decide +kernel)⟩
theorem lw_p1 : lw_okq (⟨"java/lang/Throwable", "fillInStackTrace", "(I)Ljava/lang/Throwable;"⟩, 6) := ⟨⟨by decide +kernel, by decide +kernel⟩, List.mem_of_getElem? (i := 197) (by decide +kernel), List.mem_of_getElem? (i := 195) (by decide +kernel), List.mem_of_getElem? (i := 196) (by decide +kernel)⟩
theorem lw_p2 : lw_okq (⟨"DrawShares$Acts", "append", "(II)I"⟩, 3) := ⟨⟨by decide +kernel, by decide +kernel⟩, List.mem_of_getElem? (i := 66) (by decide +kernel), List.mem_of_getElem? (i := 278) (by decide +kernel), List.mem_of_getElem? (i := 279) (by decide +kernel)⟩
theorem lw_p3 : lw_okq (⟨"DrawShares$Shares", "allLosses", "()I"⟩, 6) := ⟨⟨by decide +kernel, by decide +kernel⟩, List.mem_of_getElem? (i := 29) (by decide +kernel), List.mem_of_getElem? (i := 297) (by decide +kernel), List.mem_of_getElem? (i := 298) (by decide +kernel)⟩
theorem lw_p4 : lw_okq (⟨"DrawShares$Told", "doAll", "(LDrawShares$Shares;)V"⟩, 8) := ⟨⟨by decide +kernel, by decide +kernel⟩, List.mem_of_getElem? (i := 86) (by decide +kernel), List.mem_of_getElem? (i := 301) (by decide +kernel), List.mem_of_getElem? (i := 302) (by decide +kernel)⟩
theorem lw_p5 : lw_okq (⟨"DrawShares$Shares", "lastValue", "(I)I"⟩, 6) := ⟨⟨by decide +kernel, by decide +kernel⟩, List.mem_of_getElem? (i := 29) (by decide +kernel), List.mem_of_getElem? (i := 305) (by decide +kernel), List.mem_of_getElem? (i := 306) (by decide +kernel)⟩
theorem lw_p6 : lw_okq (⟨"DrawShares$Shares", "behind", "(II)J"⟩, 6) := ⟨⟨by decide +kernel, by decide +kernel⟩, List.mem_of_getElem? (i := 29) (by decide +kernel), List.mem_of_getElem? (i := 309) (by decide +kernel), List.mem_of_getElem? (i := 310) (by decide +kernel)⟩
theorem lw_p7 : lw_okq (⟨"DrawShares$Shares", "stepsWithLosses", "(I)I"⟩, 6) := ⟨⟨by decide +kernel, by decide +kernel⟩, List.mem_of_getElem? (i := 29) (by decide +kernel), List.mem_of_getElem? (i := 316) (by decide +kernel), List.mem_of_getElem? (i := 317) (by decide +kernel)⟩
theorem lw_p8 : lw_okq (⟨"DrawShares$Told", "joinAll", "(LDrawShares$Shares;LDrawShares$Acts;I)I"⟩, 8) := ⟨⟨by decide +kernel, by decide +kernel⟩, List.mem_of_getElem? (i := 86) (by decide +kernel), List.mem_of_getElem? (i := 321) (by decide +kernel), List.mem_of_getElem? (i := 322) (by decide +kernel)⟩
theorem lw_p9 : lw_okq (⟨"DrawShares$Told", "letIn", "(LDrawShares$Acts;I)V"⟩, 8) := ⟨⟨by decide +kernel, by decide +kernel⟩, List.mem_of_getElem? (i := 86) (by decide +kernel), List.mem_of_getElem? (i := 326) (by decide +kernel), List.mem_of_getElem? (i := 327) (by decide +kernel)⟩
theorem lw_p10 : lw_okq (⟨"DrawShares$Shares", "settles", "(II)Z"⟩, 6) := ⟨⟨by decide +kernel, by decide +kernel⟩, List.mem_of_getElem? (i := 29) (by decide +kernel), List.mem_of_getElem? (i := 332) (by decide +kernel), List.mem_of_getElem? (i := 333) (by decide +kernel)⟩
theorem lw_p11 : lw_okq (⟨"DrawShares", "needRun", "()V"⟩, 6) := ⟨⟨by decide +kernel, by decide +kernel⟩, List.mem_of_getElem? (i := 15) (by decide +kernel), List.mem_of_getElem? (i := 343) (by decide +kernel), List.mem_of_getElem? (i := 344) (by decide +kernel)⟩
theorem lw_p12 : lw_okq (⟨"DrawSharesModel", "isShare", "(I)Z"⟩, 20) := ⟨⟨by decide +kernel, by decide +kernel⟩, List.mem_of_getElem? (i := 402) (by decide +kernel), List.mem_of_getElem? (i := 477) (by decide +kernel), List.mem_of_getElem? (i := 478) (by decide +kernel)⟩
theorem lw_p13 : lw_okq (⟨"DrawSharesModel", "refuse", "(I)I"⟩, 20) := ⟨⟨by decide +kernel, by decide +kernel⟩, List.mem_of_getElem? (i := 402) (by decide +kernel), List.mem_of_getElem? (i := 481) (by decide +kernel), List.mem_of_getElem? (i := 482) (by decide +kernel)⟩
theorem lw_p14 : lw_okq (⟨"DrawSharesModel", "after", "(II)J"⟩, 20) := ⟨⟨by decide +kernel, by decide +kernel⟩, List.mem_of_getElem? (i := 402) (by decide +kernel), List.mem_of_getElem? (i := 504) (by decide +kernel), List.mem_of_getElem? (i := 505) (by decide +kernel)⟩
theorem lw_p15 : lw_okq (⟨"DrawSharesModel", "join", "()I"⟩, 20) := ⟨⟨by decide +kernel, by decide +kernel⟩, List.mem_of_getElem? (i := 402) (by decide +kernel), List.mem_of_getElem? (i := 511) (by decide +kernel), List.mem_of_getElem? (i := 512) (by decide +kernel)⟩
def lw_privs_1 : List (MethodName × Nat) := [(⟨"DrawShares", "needShare", "(I)V"⟩, 6), (⟨"java/lang/Throwable", "fillInStackTrace", "(I)Ljava/lang/Throwable;"⟩, 6), (⟨"DrawShares$Acts", "append", "(II)I"⟩, 3), (⟨"DrawShares$Shares", "allLosses", "()I"⟩, 6), (⟨"DrawShares$Told", "doAll", "(LDrawShares$Shares;)V"⟩, 8), (⟨"DrawShares$Shares", "lastValue", "(I)I"⟩, 6), (⟨"DrawShares$Shares", "behind", "(II)J"⟩, 6), (⟨"DrawShares$Shares", "stepsWithLosses", "(I)I"⟩, 6), (⟨"DrawShares$Told", "joinAll", "(LDrawShares$Shares;LDrawShares$Acts;I)I"⟩, 8), (⟨"DrawShares$Told", "letIn", "(LDrawShares$Acts;I)V"⟩, 8), (⟨"DrawShares$Shares", "settles", "(II)Z"⟩, 6), (⟨"DrawShares", "needRun", "()V"⟩, 6), (⟨"DrawSharesModel", "isShare", "(I)Z"⟩, 20), (⟨"DrawSharesModel", "refuse", "(I)I"⟩, 20), (⟨"DrawSharesModel", "after", "(II)J"⟩, 20), (⟨"DrawSharesModel", "join", "()I"⟩, 20)]
theorem lw_r1 : ∀ q ∈ lw_privs_1, lw_okq q := List.forall_mem_cons.mpr ⟨lw_p0, List.forall_mem_cons.mpr ⟨lw_p1, List.forall_mem_cons.mpr ⟨lw_p2, List.forall_mem_cons.mpr ⟨lw_p3, List.forall_mem_cons.mpr ⟨lw_p4, List.forall_mem_cons.mpr ⟨lw_p5, List.forall_mem_cons.mpr ⟨lw_p6, List.forall_mem_cons.mpr ⟨lw_p7, List.forall_mem_cons.mpr ⟨lw_p8, List.forall_mem_cons.mpr ⟨lw_p9, List.forall_mem_cons.mpr ⟨lw_p10, List.forall_mem_cons.mpr ⟨lw_p11, List.forall_mem_cons.mpr ⟨lw_p12, List.forall_mem_cons.mpr ⟨lw_p13, List.forall_mem_cons.mpr ⟨lw_p14, List.forall_mem_cons.mpr ⟨lw_p15, fun _ h => absurd h List.not_mem_nil⟩⟩⟩⟩⟩⟩⟩⟩⟩⟩⟩⟩⟩⟩⟩⟩
theorem lw_p16 : lw_okq (⟨"DrawSharesModel", "acted", "(I)V"⟩, 20) := ⟨⟨by decide +kernel, by decide +kernel⟩, List.mem_of_getElem? (i := 402) (by decide +kernel), List.mem_of_getElem? (i := 515) (by decide +kernel), List.mem_of_getElem? (i := 516) (by decide +kernel)⟩
theorem lw_p17 : lw_okq (⟨"DrawSharesModel", "settles", "(I)Z"⟩, 20) := ⟨⟨by decide +kernel, by decide +kernel⟩, List.mem_of_getElem? (i := 402) (by decide +kernel), List.mem_of_getElem? (i := 521) (by decide +kernel), List.mem_of_getElem? (i := 522) (by decide +kernel)⟩
theorem lw_p18 : lw_okq (⟨"DrawSharesModel", "isNone", "()Z"⟩, 20) := ⟨⟨by decide +kernel, by decide +kernel⟩, List.mem_of_getElem? (i := 402) (by decide +kernel), List.mem_of_getElem? (i := 529) (by decide +kernel), List.mem_of_getElem? (i := 530) (by decide +kernel)⟩
theorem lw_p19 : lw_okq (⟨"DrawSharesModel", "isRefused", "(Z)Z"⟩, 20) := ⟨⟨by decide +kernel, by decide +kernel⟩, List.mem_of_getElem? (i := 402) (by decide +kernel), List.mem_of_getElem? (i := 541) (by decide +kernel), List.mem_of_getElem? (i := 542) (by decide +kernel)⟩
def lw_privs_2 : List (MethodName × Nat) := [(⟨"DrawSharesModel", "acted", "(I)V"⟩, 20), (⟨"DrawSharesModel", "settles", "(I)Z"⟩, 20), (⟨"DrawSharesModel", "isNone", "()Z"⟩, 20), (⟨"DrawSharesModel", "isRefused", "(Z)Z"⟩, 20)]
theorem lw_r2 : ∀ q ∈ lw_privs_2, lw_okq q := List.forall_mem_cons.mpr ⟨lw_p16, List.forall_mem_cons.mpr ⟨lw_p17, List.forall_mem_cons.mpr ⟨lw_p18, List.forall_mem_cons.mpr ⟨lw_p19, fun _ h => absurd h List.not_mem_nil⟩⟩⟩⟩
def lw_privs : List (MethodName × Nat) := lw_privs_1 ++ (lw_privs_2)
def lw_tbl : List Cond := k2_sels lw_privs ++ tables_1
theorem lw_privs_ok : ∀ q ∈ lw_privs, lw_okq q := by
  show ∀ q ∈ lw_privs_1 ++ (lw_privs_2), lw_okq q
  exact List.forall_mem_append.mpr ⟨lw_r1, lw_r2⟩
end
section
/-! ===== BEGIN words of one list among another's, by their places ===== -/
theorem goodIn_r {big : List Cond} (ws : List Cond) (ps : List Nat) (hp : ws = ps.filterMap (fun i => big[i]?)) (h : ws.all goodWord = true) : GoodIn big ws := by
  intro w hw
  have h1 := List.all_eq_true.mp h w hw
  rw [hp] at hw
  obtain ⟨i, -, hi⟩ := List.mem_filterMap.mp hw
  have hm : w ∈ big := by first | exact List.mem_of_getElem? hi | exact List.getElem?_mem hi
  exact ⟨hm, good_of_word h1⟩
theorem goodIn_app {big a b : List Cond} (ha : GoodIn big a) (hb : GoodIn big b) : GoodIn big (a ++ b) := fun w h => (List.mem_append.mp h).elim (ha w) (hb w)
theorem goodIn_ca {big a b : List Cond} {c : Cond} (ha : GoodIn big (c :: a)) (hb : GoodIn big b) : GoodIn big (c :: (a ++ b)) := fun w h => (List.mem_cons.mp h).elim (fun e => ha w (List.mem_cons.mpr (Or.inl e))) (fun h => (List.mem_append.mp h).elim (fun h => ha w (List.mem_cons.mpr (Or.inr h))) (hb w))
theorem goodIn_sub {big ws : List Cond} (hm : ∀ w ∈ ws, w ∈ big) (h : ws.all goodWord = true) : GoodIn big ws := fun w hw => ⟨hm w hw, good_of_word (List.all_eq_true.mp h w hw)⟩
/-! ===== END ===== -/

/-! ===== BEGIN exceptions that leave a method, and their catching by the caller (launches without stack traces) ===== -/
section VXA
/-! The laws vx_back, vx_callV, vx_callS, vx_callSW, vx_throw0, vx_throwS follow proofs of the library, with one case more: JvmDerived/Free/Laws.lean (Back.of_free), Shelf42/LK1.lean (callV, callS), Shelf/KitTraced.lean (throwNew0V, throwNewS). -/
/-- where a method has thrown q: the class by its name, the cell, what was written, the world -/
def vx_T (XC : String → State → State → Prop) (st : State) (q : Addr) (t : State) (mc ms : Nat) (free : Addr → Prop) : Prop :=
  ∃ (E : String) (ce : Cell) (L : List Loc), XC E st t ∧ t.heap[q]? = some ce ∧ ce.vm = .none ∧ st.vm.findClass E = some ce.cls ∧ st.WarmedH t.vm ∧ st.sameButNew ({ t with vm := st.vm } : State) L mc ms ∧ ∀ z ∈ L, free z.base
def vx_Q (Qc : Array Value → State → Outcome → State → Prop) (XC : String → State → State → Prop) (mc ms : Nat) (free : Addr → Prop) : Array Value → State → Outcome → State → Prop := fun a st o t =>
  (Qc a st o t ∧ ∃ L, FrameEnd st o t L mc ms ∧ ∀ q ∈ L, free q.base) ∨ ∃ q, o = .threw q ∧ vx_T XC st q t mc ms free
/-- a callee that returns or throws -/
def vx_Met (l : Launch) (y : MethodName) (ws : List Cond) (rm : Room) (Pc : Array Value → State → Prop) (Qc : Array Value → State → Outcome → State → Prop) (XC : String → State → State → Prop) (mc ms : Nat) (free : Addr → Prop) : Prop :=
  MetFree l y (headSpec ws rm) Pc (fun _ _ _ _ _ => True) (vx_Q Qc XC mc ms free)
def vx_Post (XC : String → State → State → Prop) (mc ms : Nat) (free : Addr → Prop) : Pt → Array Value → Addr → Pt → Prop := fun A a q B =>
  ∃ (g : JFrame) (mk : MethodId) (t : State) (L : List Loc) (E : String) (ce : Cell), B.U.heap = t.heap ∧ B.U.vm = t.vm ∧ XC E (A.U.calling g mk a) t ∧ t.heap[q]? = some ce ∧ ce.vm = .none ∧ A.U.vm.findClass E = some ce.cls ∧ B.locs = A.locs ++ L ∧ (∀ z ∈ L, free z.base) ∧ B.cells = A.cells + mc ∧ B.slots = A.slots + ms
def vx_Back (l : Launch) (R : Room) (p : Program) (e : Env) (below : List Frame) (s : State) (sargs : Array Value) (y : MethodName) (len W9 : Nat)
    (Pre : Pt → Array Value → Prop) (Post : Pt → Array Value → Option Value → Pt → Prop) (PostX : Pt → Array Value → Addr → Pt → Prop) : Prop :=
  ∀ (m : MethodId) (meth : Method) (c : Code) (A : Pt) (g : JFrame) (ig : Instr) (mk : MethodId) (a : Array Value),
    Stand p l e R s m sargs below meth c A.U A.locs A.cells A.slots → g.method = m → g.locals.size = c.maxLocals → decode c.code g.pc = .ok (ig, len) →
    2 * g.monitorRoom + (g.stack.map fun v => v.category).sum ≤ W9 → A.U.methodNamed? y = some mk → Pre A a →
    (∃ (v : Option Value) (B : Pt), Stand p l e R s m sargs below meth c B.U B.locs B.cells B.slots ∧ Post A a v B ∧
      Steps p.tables e below (doInvoke e (A.U.setTop g) [] mk a).1 (B.U.setTop { g with pc := g.pc + len, stack := v.toList ++ g.stack })) ∨
    (∃ (q : Addr) (B : Pt), Stand p l e R s m sargs below meth c B.U B.locs B.cells B.slots ∧ PostX A a q B ∧
      Steps p.tables e below (doInvoke e (A.U.setTop g) [] mk a).1 ((B.U.setTop g).pushFrame (.throwing q)))
section Payer
variable {l : Launch} {R : Room} {p : Program} {e : Env} {below : List Frame} {s : State} {sargs : Array Value} {y : MethodName} {len W9 : Nat}
theorem vx_back {ws : List Cond} {rm : Room} {Pc : Array Value → State → Prop} {Qc : Array Value → State → Outcome → State → Prop} {XC : String → State → State → Prop} {mc ms : Nat} {free : Addr → Prop} {bytes : ByteArray} {maxL : Nat} {ret : Option FieldType}
    (hM : vx_Met l y ws rm Pc Qc XC mc ms free) (hblind : FrameBlind Pc) (hrc : rm.cells = mc) (hrs : rm.slots = ms)
    (hframes : rm.frames + 1 ≤ R.frames) (hlocals : W9 + (maxL + 11) + rm.locals ≤ R.locals)
    (hws : ∀ w ∈ ws, ∀ a' U, s.WarmedH U.vm → w.before a' U = true) (hcode : Cond.code y bytes maxL ret ∈ ws) (hinit : ∀ a' U, s.WarmedH U.vm → (Cond.initialized y.cls).before a' U = true) :
    vx_Back l R p e below s sargs y len W9 (PreOf R mc ms Pc) (PostOf Qc mc ms free) (vx_Post XC mc ms free) := by
  intro m meth c A g ig mk a X hg hsize hdg hW hn hp
  have h1 : (headSpec ws rm).pre.before a A.U = true := atoms_intro fun w hw => hws w hw _ _ X.warmed
  have h2 : (Cond.code y bytes maxL ret).before a A.U = true := hws _ hcode _ _ X.warmed
  have h3 : (Cond.initialized y.cls).before a A.U = true := hinit _ _ X.warmed
  have h4 : A.cells + (headSpec ws rm).room.cells ≤ R.cells := by rw [show (headSpec ws rm).room.cells = mc from hrc]; exact hp.1
  have h5 : A.slots + (headSpec ws rm).room.slots ≤ R.slots := by rw [show (headSpec ws rm).room.slots = ms from hrs]; exact hp.2.1
  have hPc : Pc a (A.U.calling g mk a) := hblind _ _ _ _ hp.2.2
  obtain ⟨U, Ls, c0, s0⟩ := A
  dsimp only [Pt.U, Pt.locs, Pt.cells, Pt.slots] at h1 h2 h3 h4 h5 X hn hPc ⊢
  obtain ⟨methY, cY, hmY, hcY, -, hlY, -, -, -, -⟩ := Cond.code_spec hn h2
  obtain ⟨kY, hkY, -⟩ := className_of_methodNamed hn
  have hinitY : kY.init = .initialized := Cond.initialized_spec (findClass_of_methodNamed hn) hkY h3
  have h : At U g.method c below := by rw [hg]; exact X.here
  have hlocals9 : W9 + (maxL + 11) + (headSpec ws rm).room.locals ≤ R.locals := hlocals
  have happ : (headSpec ws rm).appliesLoose y e.platform (U.calling g mk a) = true :=
    Spec.appliesLoose_calling (g := g) h hdg hn hkY hinitY
      (X.room_calling (g := g) (R' := (headSpec ws rm).room) hsize hmY hcY hframes (by rw [hlY]; omega) h4 h5) h1
  obtain ⟨mid, hmid⟩ := h.above
  have hfr : (U.setTop g).frames = (.java g :: mid) ++ below := by rw [State.frames_setTop' g h.top, hmid]; rfl
  obtain ⟨o, s₂, hsteps, -, hend, hq⟩ := Steps.callFree hM p X.admits X.cas X.clock (acts := []) hfr happ hPc trivial
  have hq' : vx_Q Qc XC mc ms free a (U.calling g mk a) o s₂ := hq
  rw [State.frames_setTop' g h.top] at hend
  obtain ⟨g₀, hg0⟩ := Option.isSome_iff_exists.mp h.top
  obtain ⟨r, hr⟩ := State.topJava?_eq_some.mp hg0
  have hr' : (({ U with heap := s₂.heap, slotsUsed := s₂.slotsUsed } : State).setVm s₂.vm).frames = .java g₀ :: r := hr
  rcases hq' with ⟨hqc, L, hfe, hL⟩ | ⟨q, rfl, E, ce, L, hx, hce, hcv, hcl, hW₂, hsm, hL⟩
  · obtain ⟨⟨v, rfl⟩, hW₂, e2, q2, q3, q4, q5, q6⟩ := id hfe
    have e3 : s₂ = ({ (U.calling g mk a).setFrames s₂.frames with heap := s₂.heap, slotsUsed := s₂.slotsUsed } : State).setVm s₂.vm := by
      have : s₂ = ({ s₂ with vm := (U.calling g mk a).vm } : State).setVm s₂.vm := rfl
      rw [e2] at this
      exact this
    obtain ⟨c₂, i₂, len₂, hc₂, hd₂, hf₂⟩ := hend
    have hW' : U.WarmedH s₂.vm := hW₂
    have hcc : c₂ = c := by
      have h1 : s₂.code? g.method = U.code? g.method := by
        rw [State.code?_eq, State.code?_eq, hW'.alike.method?]
      exact Option.some.inj (hc₂.symm.trans (h1.trans h.code))
    subst hcc
    have hlen : len₂ = len := by rw [hdg] at hd₂; cases hd₂; rfl
    subst hlen
    have hs₂ : s₂ = (({ U with heap := s₂.heap, slotsUsed := s₂.slotsUsed } : State).setVm s₂.vm).setTop { g with pc := g.pc + len₂, stack := v.toList ++ g.stack } := by
      refine e3.trans ?_
      rw [hf₂, State.calling_eq h.top, State.setFrames_setFrames, State.setTop_of_frames _ hr', hr]
      rfl
    have hsame : U.sameButNew ({ U with heap := s₂.heap, slotsUsed := s₂.slotsUsed } : State) L mc ms := by
      refine ⟨?_, q2, q3, q4, q5, q6⟩
      obtain ⟨t, ht, -⟩ := State.frames_cons hr
      show ({ U with heap := s₂.heap, slotsUsed := s₂.slotsUsed } : State) = { U.setFrames U.frames with heap := s₂.heap, slotsUsed := s₂.slotsUsed }
      rw [State.setFrames_self ht]
    subst hg
    refine Or.inl ⟨v, ⟨(({ U with heap := s₂.heap, slotsUsed := s₂.slotsUsed } : State).setVm s₂.vm), Ls ++ L, c0 + mc, s0 + ms⟩,
      ⟨X.admits, X.cas, X.clock, X.frames, X.room, X.hears, X.method, X.code, (X.here.setHeapUsed s₂.heap s₂.slotsUsed).setVm hW'.alike, X.tail, State.WarmedH.trans X.warmed hW', X.limits, X.bytes, X.same.trans (hsame.setVm s.vm)⟩,
      ⟨g, mk, s₂, L, rfl, rfl, hqc, rfl, hL, rfl, rfl⟩, ?_⟩
    show Steps p.tables e below _ ((({ U with heap := s₂.heap, slotsUsed := s₂.slotsUsed } : State).setVm s₂.vm).setTop { g with pc := g.pc + len₂, stack := v.toList ++ g.stack })
    rw [← hs₂]
    exact hsteps
  · obtain ⟨e2, q2, q3, q4, q5, q6⟩ := id hsm
    have e3 : s₂ = ({ (U.calling g mk a).setFrames s₂.frames with heap := s₂.heap, slotsUsed := s₂.slotsUsed } : State).setVm s₂.vm := by
      have : s₂ = ({ s₂ with vm := (U.calling g mk a).vm } : State).setVm s₂.vm := rfl
      rw [e2] at this
      exact this
    have hf₂ : s₂.frames = .throwing q :: .java g :: U.frames.tail := hend
    have hW' : U.WarmedH s₂.vm := hW₂
    have hs₂ : s₂ = ((({ U with heap := s₂.heap, slotsUsed := s₂.slotsUsed } : State).setVm s₂.vm).setTop g).pushFrame (.throwing q) := by
      refine e3.trans ?_
      rw [hf₂, State.calling_eq h.top, State.setFrames_setFrames, State.pushFrame, State.frames_setTop _ hr', State.setTop_of_frames _ hr', State.setFrames_setFrames, hr]
      rfl
    have hsame : U.sameButNew ({ U with heap := s₂.heap, slotsUsed := s₂.slotsUsed } : State) L mc ms := by
      refine ⟨?_, q2, q3, q4, q5, q6⟩
      obtain ⟨t, ht, -⟩ := State.frames_cons hr
      show ({ U with heap := s₂.heap, slotsUsed := s₂.slotsUsed } : State) = { U.setFrames U.frames with heap := s₂.heap, slotsUsed := s₂.slotsUsed }
      rw [State.setFrames_self ht]
    subst hg
    refine Or.inr ⟨q, ⟨(({ U with heap := s₂.heap, slotsUsed := s₂.slotsUsed } : State).setVm s₂.vm), Ls ++ L, c0 + mc, s0 + ms⟩,
      ⟨X.admits, X.cas, X.clock, X.frames, X.room, X.hears, X.method, X.code, (X.here.setHeapUsed s₂.heap s₂.slotsUsed).setVm hW'.alike, X.tail, State.WarmedH.trans X.warmed hW', X.limits, X.bytes, X.same.trans (hsame.setVm s.vm)⟩,
      ⟨g, mk, s₂, L, E, ce, rfl, rfl, hx, hce, hcv, hcl, rfl, hL, rfl, rfl⟩, ?_⟩
    show Steps p.tables e below _ (((({ U with heap := s₂.heap, slotsUsed := s₂.slotsUsed } : State).setVm s₂.vm).setTop g).pushFrame (.throwing q))
    rw [← hs₂]
    exact hsteps
end Payer
section Calls
variable {p : Program} {l : Launch} {e : Env} {R : Room} {s : State} {m : MethodId} {args : Array Value} {below : List Frame} {meth : Method} {c : Code} {T : State} {locs : List Loc} {cells slots : Nat}
theorem vx_callV (X : Stand p l e R s m args below meth c T locs cells slots) (hexec : p.tables.exec = Jvm.exec) {own C : String} {index : Nat} {y : MethodName} {bytes : ByteArray} {maxL : Nat} {ret : Option FieldType}
    (hown : s.vm.findClass own = some m.cls) (hlink : (Cond.methodLink own index y).before args s = true) (hinst : (Cond.instanceMethod y).before args s = true) (hsel : (Cond.selects C y y).before args s = true)
    (hcode : (Cond.code y bytes maxL ret).before args s = true) (hy : y.cls ≠ "java/lang/invoke/MethodHandle" ∧ y.cls ≠ "java/lang/invoke/VarHandle")
    {W9 : Nat} {Pre : Pt → Array Value → Prop} {Post : Pt → Array Value → Option Value → Pt → Prop} {PostX : Pt → Array Value → Addr → Pt → Prop} (hK : vx_Back l R p e below s args y 3 W9 Pre Post PostX)
    {b : Addr} {cellB : Cell} (hcell : T.heap[b]? = some cellB) (hobj : cellB.vm.isStatics = false) (hcls : s.vm.findClass C = some cellB.cls)
    {g : JFrame} (hg : g.method = m) (hsize : g.locals.size = c.maxLocals) {argsL rest : List Value} (hlen : ∀ sig, parseMethodDescriptor y.desc = some sig → argsL.length = sig.parameters.length)
    (hstack : g.stack = argsL.reverse ++ .ref b :: rest) (hW : 2 * g.monitorRoom + (rest.map fun v => v.category).sum ≤ W9) (hdg : decode c.code g.pc = .ok (.invokevirtual index, 3))
    (hpre : ∀ vm₁, s.WarmedH vm₁ → Pre ⟨T.setVm vm₁, locs, cells, slots⟩ (Value.ref b :: argsL).toArray) :
    (∃ (v : Option Value) (vm₁ : Vm) (B : Pt), s.WarmedH vm₁ ∧ Stand p l e R s m args below meth c B.U B.locs B.cells B.slots ∧ Post ⟨T.setVm vm₁, locs, cells, slots⟩ (Value.ref b :: argsL).toArray v B ∧
      ∀ target, Steps p.tables e below (B.U.setTop { g with pc := g.pc + 3, stack := v.toList ++ rest }) target → Steps p.tables e below (T.setTop g) target) ∨
    (∃ (q : Addr) (vm₁ : Vm) (B : Pt), s.WarmedH vm₁ ∧ Stand p l e R s m args below meth c B.U B.locs B.cells B.slots ∧ PostX ⟨T.setVm vm₁, locs, cells, slots⟩ (Value.ref b :: argsL).toArray q B ∧
      Steps p.tables e below (T.setTop g) ((B.U.setTop { g with stack := rest }).pushFrame (.throwing q))) := by
  obtain ⟨mk, methM, hnamed, hmethM, hstM, habM⟩ := Cond.instanceMethod_spec hinst
  obtain ⟨methM', cM, hmethM', -, -, -, -, -, -, hsigM⟩ := Cond.code_spec hnamed hcode
  cases hmethM.symm.trans hmethM'
  obtain ⟨c2, r2, m2, q1, q2, q3, q4, kP, hkP, hkPi⟩ := Cond.selects_spec hsel
  cases hcls.symm.trans q1
  cases (State.methodFound?_of_named hnamed hy).symm.trans q2
  cases hnamed.symm.trans q3
  have hselP : selectMethod e.platform s.vm cellB.cls mk = .method mk := by rw [Launch.admits_selectMethod X.admits]; exact q4
  obtain ⟨vm₁, X₁, hstep₁⟩ := X.invokevirtual hexec hown hlink hnamed hmethM hstM hkP hkPi hy (a := b) (cell := cellB) hcell
    (fun z h => by rw [h] at hobj; cases hobj) hselP hmethM habM hkP hkPi (g := g) hg (argsL := argsL) (rest := rest) (hlen _ hsigM) hstack hdg
  rcases hK m meth c ⟨T.setVm vm₁, locs, cells, slots⟩ { g with stack := rest } (.invokevirtual index) mk (Value.ref b :: argsL).toArray X₁ hg hsize hdg hW (X₁.named hnamed) (hpre vm₁ X₁.warmed) with ⟨v, B, X', hpost, hsteps⟩ | ⟨q, B, X', hpost, hsteps⟩
  · exact Or.inl ⟨v, vm₁, B, X₁.warmed, X', hpost, fun target h => hstep₁ _ fun acts => by rw [doInvoke_state]; exact hsteps.trans h⟩
  · exact Or.inr ⟨q, vm₁, B, X₁.warmed, X', hpost, hstep₁ _ fun acts => by rw [doInvoke_state]; exact hsteps⟩
theorem vx_callS (X : Stand p l e R s m args below meth c T locs cells slots) (hexec : p.tables.exec = Jvm.exec) {own : String} {index : Nat} {y : MethodName} {bytes : ByteArray} {maxL : Nat} {ret : Option FieldType}
    (hown : s.vm.findClass own = some m.cls) (hlink : (Cond.methodLink own index y).before args s = true) (hstat : (Cond.static y).before args s = true) (hinit : (Cond.initialized y.cls).before args s = true)
    (hcode : (Cond.code y bytes maxL ret).before args s = true) (hy : y.cls ≠ "java/lang/invoke/MethodHandle" ∧ y.cls ≠ "java/lang/invoke/VarHandle")
    {W9 : Nat} {Pre : Pt → Array Value → Prop} {Post : Pt → Array Value → Option Value → Pt → Prop} {PostX : Pt → Array Value → Addr → Pt → Prop} (hK : vx_Back l R p e below s args y 3 W9 Pre Post PostX)
    {g : JFrame} (hg : g.method = m) (hsize : g.locals.size = c.maxLocals) {argsL rest : List Value} (hlen : ∀ sig, parseMethodDescriptor y.desc = some sig → argsL.length = sig.parameters.length)
    (hstack : g.stack = argsL.reverse ++ rest) (hW : 2 * g.monitorRoom + (rest.map fun v => v.category).sum ≤ W9) (hdg : decode c.code g.pc = .ok (.invokestatic index, 3))
    (hpre : ∀ vm₁, s.WarmedH vm₁ → Pre ⟨T.setVm vm₁, locs, cells, slots⟩ argsL.toArray) :
    (∃ (v : Option Value) (vm₁ : Vm) (B : Pt), s.WarmedH vm₁ ∧ Stand p l e R s m args below meth c B.U B.locs B.cells B.slots ∧ Post ⟨T.setVm vm₁, locs, cells, slots⟩ argsL.toArray v B ∧
      ∀ target, Steps p.tables e below (B.U.setTop { g with pc := g.pc + 3, stack := v.toList ++ rest }) target → Steps p.tables e below (T.setTop g) target) ∨
    (∃ (q : Addr) (vm₁ : Vm) (B : Pt), s.WarmedH vm₁ ∧ Stand p l e R s m args below meth c B.U B.locs B.cells B.slots ∧ PostX ⟨T.setVm vm₁, locs, cells, slots⟩ argsL.toArray q B ∧
      Steps p.tables e below (T.setTop g) ((B.U.setTop { g with stack := rest }).pushFrame (.throwing q))) := by
  obtain ⟨mk, hnamed⟩ := Cond.code_named hcode
  obtain ⟨methM, cM, hmethM, -, -, -, -, -, -, hsigM⟩ := Cond.code_spec hnamed hcode
  have hstatic : methM.isStatic = true := Cond.static_spec hnamed hmethM hstat
  obtain ⟨kP, hkP, -⟩ := className_of_methodNamed hnamed
  have hinitP : kP.init = .initialized := Cond.initialized_spec (findClass_of_methodNamed hnamed) hkP hinit
  obtain ⟨vm₁, X₁, hstep₁⟩ := X.invokestatic hexec hown hlink hnamed hmethM hstatic hkP hinitP hy (g := g) hg (argsL := argsL) (rest := rest) (hlen _ hsigM) hstack hdg
  rcases hK m meth c ⟨T.setVm vm₁, locs, cells, slots⟩ { g with stack := rest } (.invokestatic index) mk argsL.toArray X₁ hg hsize hdg hW (X₁.named hnamed) (hpre vm₁ X₁.warmed) with ⟨v, B, X', hpost, hsteps⟩ | ⟨q, B, X', hpost, hsteps⟩
  · exact Or.inl ⟨v, vm₁, B, X₁.warmed, X', hpost, fun target h => hstep₁ _ fun acts => by rw [doInvoke_state]; exact hsteps.trans h⟩
  · exact Or.inr ⟨q, vm₁, B, X₁.warmed, X', hpost, hstep₁ _ fun acts => by rw [doInvoke_state]; exact hsteps⟩
end Calls
theorem vx_cls {s : State} {T : State} {vm₁ : Vm} {E : String} {k : ClassId} (hW : s.WarmedH vm₁) (h : (T.setVm vm₁).vm.findClass E = some k) : s.vm.findClass E = some k := by
  have h1 : vm₁.findClass E = some k := h
  rw [hW.alike.findClass] at h1
  exact h1
/-- the method's frame g, with q thrown over it -/
def vx_W (p : Program) (l : Launch) (e : Env) (R : Room) (s : State) (m : MethodId) (args : Array Value) (below : List Frame) (meth : Method) (c : Code) (H : Heap) (locs : List Loc) (cells slots : Nat) (Q : State → Prop) (g : JFrame) (q : Addr) : Prop :=
  ∀ T : State, T.heap = H → Stand p l e R s m args below meth c T locs cells slots → ∃ t, Steps p.tables e below ((T.setTop g).pushFrame (.throwing q)) t ∧ Q t
def vx_Run (p : Program) (l : Launch) (e : Env) (R : Room) (s : State) (m : MethodId) (args : Array Value) (below : List Frame) (meth : Method) (c : Code) (H : Heap) (locs : List Loc) (cells slots mc ms : Nat) (g : JFrame) (rest : List Value) (Qa : State → Outcome → State → Prop) (XC : String → State → State → Prop) (free : Addr → Prop) : Prop :=
  ∀ T : State, T.heap = H → Stand p l e R s m args below meth c T locs cells slots →
    (∃ (v : Option Value) (st₀ t T' : State) (L : List Loc), st₀.heap = H ∧ Stand p l e R s m args below meth c T' (locs ++ L) (cells + mc) (slots + ms) ∧ (∀ q ∈ L, free q.base) ∧ T'.heap = t.heap ∧ T'.vm = t.vm ∧ Qa st₀ (.returned v) t ∧
      Goes p e below T g T' { g with pc := g.pc + 3, stack := v.toList ++ rest }) ∨
    (∃ (q : Addr) (st₀ t T' : State) (L : List Loc) (E : String) (ce : Cell), st₀.heap = H ∧ Stand p l e R s m args below meth c T' (locs ++ L) (cells + mc) (slots + ms) ∧ (∀ z ∈ L, free z.base) ∧ T'.heap = t.heap ∧ T'.vm = t.vm ∧ XC E st₀ t ∧ t.heap[q]? = some ce ∧ ce.vm = .none ∧ s.vm.findClass E = some ce.cls ∧
      Steps p.tables e below (T.setTop g) ((T'.setTop { g with stack := rest }).pushFrame (.throwing q)))
def vx_X {S : Type} (px : S → Prop) (B : String → S → State → Prop) (A : Nat → Prop) : String → State → State → Prop := fun E st t => ∃ u : S, px u ∧ B E u t ∧ va_F A st t
section Runs
variable {p : Program} {l : Launch} {e : Env} {R : Room} {s : State} {m : MethodId} {args : Array Value} {below : List Frame} {meth : Method} {c : Code} {H : Heap} {locs : List Loc} {cells slots : Nat}
variable {y : MethodName} {bytes cc : ByteArray} {maxL nL mc ms n index : Nat} {ret : Option FieldType} {ws : List Cond} {rm : Room} {Pc : Array Value → State → Prop} {Qc : Array Value → State → Outcome → State → Prop} {XC : String → State → State → Prop} {free : Addr → Prop} {Ts : List Cond} {own C : String} {b : Addr} {As rest : List Value} {g : JFrame}
theorem vx_callBack (cb : CallB R s args own index y bytes maxL ret ws rm mc ms n) (hM : vx_Met l y ws rm Pc Qc XC mc ms free) (hbl : FrameBlind Pc) : vx_Back l R p e below s args y 3 8 (PreOf R mc ms Pc) (PostOf Qc mc ms free) (vx_Post XC mc ms free) := by
  obtain ⟨hrc, hrs, hfr, hlo, hws, hcw, -, hini, -⟩ := cb
  exact vx_back (bytes := bytes) (maxL := maxL) (ret := ret) hM hbl hrc hrs hfr hlo hws hcw (fun a' U hW => word_at hW (Or.inl (by first | rfl | simp [Cond.onTables, Cond.keeps, Cond.steady])) hini)
theorem vx_runV (S : CallFix p m c cc nL s args Ts own) (hM : vx_Met l y ws rm Pc Qc XC mc ms free) (cw : CallW R s args own C index y bytes maxL ret ws rm mc ms n) (hp : PreV s H C b Pc As)
    (hg : g.method = m) (hn : As.length = n) (hsize : g.locals.size = nL) (hstack : g.stack = As.reverse ++ .ref b :: rest) (hW : 2 * g.monitorRoom + (rest.map fun v => v.category).sum ≤ 8) (hdg : decode cc g.pc = .ok (.invokevirtual index, 3)) (hf : cells + mc ≤ R.cells ∧ slots + ms ≤ R.slots) :
    vx_Run p l e R s m args below meth c H locs cells slots mc ms g rest (Qc (Value.ref b :: As).toArray) XC free := by
  have hK : vx_Back l R p e below s args y 3 8 (PreOf R mc ms Pc) (PostOf Qc mc ms free) (vx_Post XC mc ms free) := vx_callBack cw.1 hM hp.1
  obtain ⟨⟨-, -, -, -, -, -, hcode, -, hy, hlen, hl⟩, hin, hse⟩ := cw
  obtain ⟨hx, hb, hml, ho, -⟩ := S
  obtain ⟨-, ⟨cellB, hcB, hoB, hclB⟩, hPc⟩ := hp
  intro T hT X
  rcases vx_callV X hx (C := C) (bytes := bytes) (maxL := maxL) (ret := ret) ho hl hin hse hcode hy hK (by rw [hT]; exact hcB) hoB hclB hg (hsize.trans hml.symm) (argsL := As) (rest := rest) (fun sig h => hn.trans (hlen sig h)) hstack hW (by rw [hb]; exact hdg)
    (fun vm₁ hW₁ => ⟨hf.1, hf.2, hPc (T.setVm vm₁) hT hW₁⟩) with ⟨v, vm₁, ⟨U', l2, c2, s2⟩, hW₁, X', ⟨g', mk, t, L, e1, e2, hq, h1, hL, h2, h3⟩, st⟩ | ⟨q, vm₁, ⟨U', l2, c2, s2⟩, hW₁, X', ⟨g', mk, t, L, E, ce, e1, e2, hq, hce, hcv, hcl, h1, hL, h2, h3⟩, st⟩
  · dsimp only [Pt.U, Pt.locs, Pt.cells, Pt.slots] at X' e1 e2 h1 h2 h3 st
    subst h1; subst h2; subst h3
    exact Or.inl ⟨v, (T.setVm vm₁).calling g' mk (Value.ref b :: As).toArray, t, U', L, hT, X', hL, e1, e2, hq, st⟩
  · dsimp only [Pt.U, Pt.locs, Pt.cells, Pt.slots] at X' e1 e2 h1 h2 h3 st hcl
    subst h1; subst h2; subst h3
    exact Or.inr ⟨q, (T.setVm vm₁).calling g' mk (Value.ref b :: As).toArray, t, U', L, E, ce, hT, X', hL, e1, e2, hq, hce, hcv, vx_cls hW₁ hcl, st⟩
theorem vx_runS (S : CallFix p m c cc nL s args Ts own) (hM : vx_Met l y ws rm Pc Qc XC mc ms free) (cw : CallB R s args own index y bytes maxL ret ws rm mc ms n ∧ (Cond.static y).before args s = true) (hp : PreS s H Pc As)
    (hg : g.method = m) (hn : As.length = n) (hsize : g.locals.size = nL) (hstack : g.stack = As.reverse ++ rest) (hW : 2 * g.monitorRoom + (rest.map fun v => v.category).sum ≤ 8) (hdg : decode cc g.pc = .ok (.invokestatic index, 3)) (hf : cells + mc ≤ R.cells ∧ slots + ms ≤ R.slots) :
    vx_Run p l e R s m args below meth c H locs cells slots mc ms g rest (Qc As.toArray) XC free := by
  have hK : vx_Back l R p e below s args y 3 8 (PreOf R mc ms Pc) (PostOf Qc mc ms free) (vx_Post XC mc ms free) := vx_callBack cw.1 hM hp.1
  obtain ⟨⟨-, -, -, -, -, -, hcode, hini, hy, hlen, hl⟩, hstt⟩ := cw
  obtain ⟨hx, hb, hml, ho, -⟩ := S
  intro T hT X
  rcases vx_callS X hx (bytes := bytes) (maxL := maxL) (ret := ret) ho hl hstt hini hcode hy hK hg (hsize.trans hml.symm) (argsL := As) (rest := rest) (fun sig h => hn.trans (hlen sig h)) hstack hW (by rw [hb]; exact hdg)
    (fun vm₁ hW₁ => ⟨hf.1, hf.2, hp.2 (T.setVm vm₁) hT hW₁⟩) with ⟨v, vm₁, ⟨U', l2, c2, s2⟩, hW₁, X', ⟨g', mk, t, L, e1, e2, hq, h1, hL, h2, h3⟩, st⟩ | ⟨q, vm₁, ⟨U', l2, c2, s2⟩, hW₁, X', ⟨g', mk, t, L, E, ce, e1, e2, hq, hce, hcv, hcl, h1, hL, h2, h3⟩, st⟩
  · dsimp only [Pt.U, Pt.locs, Pt.cells, Pt.slots] at X' e1 e2 h1 h2 h3 st
    subst h1; subst h2; subst h3
    exact Or.inl ⟨v, (T.setVm vm₁).calling g' mk As.toArray, t, U', L, hT, X', hL, e1, e2, hq, st⟩
  · dsimp only [Pt.U, Pt.locs, Pt.cells, Pt.slots] at X' e1 e2 h1 h2 h3 st hcl
    subst h1; subst h2; subst h3
    exact Or.inr ⟨q, (T.setVm vm₁).calling g' mk As.toArray, t, U', L, E, ce, hT, X', hL, e1, e2, hq, hce, hcv, vx_cls hW₁ hcl, st⟩
end Runs
section Rows
variable {p : Program} {l : Launch} {e : Env} {R : Room} {s : State} {m : MethodId} {args : Array Value} {below : List Frame} {meth : Method} {c : Code} {H : Heap} {locs : List Loc} {cells slots : Nat} {Q : State → Prop}
variable {mc ms : Nat} {free : Addr → Prop} {A0 A1 : Nat → Prop} {H0 : Heap} {a : Array Value} {pc : Nat} {ls : Array Slot} {st0 rest : List Value}
theorem vx_keep {st₀ t T' : State} {L : List Loc} (h0 : st₀.heap = H) (e1 : T'.heap = t.heap) (hS : va_S A0 H0 H locs) (hA : ∀ q, q < H.size → A1 q → A0 q) (hf : ∀ q, free q → A0 q) (hL : ∀ q ∈ L, free q.base) (hF : va_F A1 st₀ t) :
    H.size ≤ T'.heap.size ∧ (∀ q : Nat, q < H.size → ¬ A1 q → T'.heap[q]? = H[q]?) ∧ va_S A0 H0 T'.heap (locs ++ L) := by
  obtain ⟨hz, hk⟩ := hF
  rw [h0] at hz hk
  exact ⟨by rw [e1]; exact hz, fun q h1 h2 => by rw [e1]; exact hk q h1 h2,
    ⟨Nat.le_trans hS.1 (by rw [e1]; exact hz), fun q h1 h2 => by rw [e1, hk q (Nat.lt_of_lt_of_le h1 hS.1) (fun z => h2 (hA q (Nat.lt_of_lt_of_le h1 hS.1) z))]; exact hS.2.1 q h1 h2, fun q hq => by
      rcases List.mem_append.mp hq with h | h
      · exact hS.2.2 q h
      · exact hf _ (hL q h)⟩⟩
theorem vx_calli {S SX : Type} {post : Int32 → S → Prop} {px : SX → Prop} {B : S → State → Prop} {BX : String → SX → State → Prop} {AX : Nat → Prop} (hr : vx_Run p l e R s m args below meth c H locs cells slots mc ms (F0 m pc ls st0) rest (va_Qi post B A1 a) (vx_X px BX AX) free) (hS : va_S A0 H0 H locs) (hA : ∀ q, q < H.size → A1 q → A0 q) (hf : ∀ q, free q → A0 q) (hAX : ∀ q, q < H.size → AX q → A0 q)
    (kx : ∀ (E : String) (ce : Cell) (q9 : Addr) (u : SX) (t : State) (H1 : Heap) (locs1 : List Loc), t.heap = H1 → s.vm.Alike t.vm → px u → BX E u t → H.size ≤ H1.size → (∀ q : Nat, q < H.size → ¬ AX q → H1[q]? = H[q]?) → va_S A0 H0 H1 locs1 → H1[q9]? = some ce → ce.vm = .none → s.vm.findClass E = some ce.cls → vx_W p l e R s m args below meth c H1 locs1 (cells + mc) (slots + ms) Q (F0 m pc ls rest) q9)
    (kk : ∀ (r : Int32) (u : S) (t : State) (H1 : Heap) (locs1 : List Loc), t.heap = H1 → s.vm.Alike t.vm → post r u → B u t → H.size ≤ H1.size → (∀ q : Nat, q < H.size → ¬ A1 q → H1[q]? = H[q]?) → va_S A0 H0 H1 locs1 → W p l e R s m args below meth c H1 locs1 (cells + mc) (slots + ms) Q (F0 m (pc + 3) ls (.int r :: rest))) : W p l e R s m args below meth c H locs cells slots Q (F0 m pc ls st0) := by
  intro T hT X
  rcases hr T hT X with ⟨v, st₀, t, T', L, h0, X', hL, e1, e2, ⟨⟨r, u, hv, hp, hb⟩, hF⟩, st⟩ | ⟨q, st₀, t, T', L, E, ce, h0, X', hL, e1, e2, ⟨u, hp, hb, hF⟩, hce, hcv, hcl, st⟩
  · cases hv
    obtain ⟨k1, k2, k3⟩ := vx_keep h0 e1 hS hA hf hL hF
    obtain ⟨t2, a1, b1⟩ := kk r u t T'.heap (locs ++ L) e1.symm (by rw [← e2]; exact X'.warmed.alike) hp hb k1 k2 k3 T' rfl X'
    exact ⟨t2, st t2 a1, b1⟩
  · obtain ⟨k1, k2, k3⟩ := vx_keep h0 e1 hS hAX hf hL hF
    obtain ⟨t2, a1, b1⟩ := kx E ce q u t T'.heap (locs ++ L) e1.symm (by rw [← e2]; exact X'.warmed.alike) hp hb k1 k2 k3 (by rw [e1]; exact hce) hcv hcl T' rfl X'
    exact ⟨t2, st.trans a1, b1⟩
theorem vx_calll {S SX : Type} {post : Int64 → S → Prop} {px : SX → Prop} {B : S → State → Prop} {BX : String → SX → State → Prop} {AX : Nat → Prop} (hr : vx_Run p l e R s m args below meth c H locs cells slots mc ms (F0 m pc ls st0) rest (va_Ql post B A1 a) (vx_X px BX AX) free) (hS : va_S A0 H0 H locs) (hA : ∀ q, q < H.size → A1 q → A0 q) (hf : ∀ q, free q → A0 q) (hAX : ∀ q, q < H.size → AX q → A0 q)
    (kx : ∀ (E : String) (ce : Cell) (q9 : Addr) (u : SX) (t : State) (H1 : Heap) (locs1 : List Loc), t.heap = H1 → s.vm.Alike t.vm → px u → BX E u t → H.size ≤ H1.size → (∀ q : Nat, q < H.size → ¬ AX q → H1[q]? = H[q]?) → va_S A0 H0 H1 locs1 → H1[q9]? = some ce → ce.vm = .none → s.vm.findClass E = some ce.cls → vx_W p l e R s m args below meth c H1 locs1 (cells + mc) (slots + ms) Q (F0 m pc ls rest) q9)
    (kk : ∀ (r : Int64) (u : S) (t : State) (H1 : Heap) (locs1 : List Loc), t.heap = H1 → s.vm.Alike t.vm → post r u → B u t → H.size ≤ H1.size → (∀ q : Nat, q < H.size → ¬ A1 q → H1[q]? = H[q]?) → va_S A0 H0 H1 locs1 → W p l e R s m args below meth c H1 locs1 (cells + mc) (slots + ms) Q (F0 m (pc + 3) ls (.long r :: rest))) : W p l e R s m args below meth c H locs cells slots Q (F0 m pc ls st0) := by
  intro T hT X
  rcases hr T hT X with ⟨v, st₀, t, T', L, h0, X', hL, e1, e2, ⟨⟨r, u, hv, hp, hb⟩, hF⟩, st⟩ | ⟨q, st₀, t, T', L, E, ce, h0, X', hL, e1, e2, ⟨u, hp, hb, hF⟩, hce, hcv, hcl, st⟩
  · cases hv
    obtain ⟨k1, k2, k3⟩ := vx_keep h0 e1 hS hA hf hL hF
    obtain ⟨t2, a1, b1⟩ := kk r u t T'.heap (locs ++ L) e1.symm (by rw [← e2]; exact X'.warmed.alike) hp hb k1 k2 k3 T' rfl X'
    exact ⟨t2, st t2 a1, b1⟩
  · obtain ⟨k1, k2, k3⟩ := vx_keep h0 e1 hS hAX hf hL hF
    obtain ⟨t2, a1, b1⟩ := kx E ce q u t T'.heap (locs ++ L) e1.symm (by rw [← e2]; exact X'.warmed.alike) hp hb k1 k2 k3 (by rw [e1]; exact hce) hcv hcl T' rfl X'
    exact ⟨t2, st.trans a1, b1⟩
theorem vx_callf {S SX : Type} {post : UInt32 → S → Prop} {px : SX → Prop} {B : S → State → Prop} {BX : String → SX → State → Prop} {AX : Nat → Prop} (hr : vx_Run p l e R s m args below meth c H locs cells slots mc ms (F0 m pc ls st0) rest (va_Qf post B A1 a) (vx_X px BX AX) free) (hS : va_S A0 H0 H locs) (hA : ∀ q, q < H.size → A1 q → A0 q) (hf : ∀ q, free q → A0 q) (hAX : ∀ q, q < H.size → AX q → A0 q)
    (kx : ∀ (E : String) (ce : Cell) (q9 : Addr) (u : SX) (t : State) (H1 : Heap) (locs1 : List Loc), t.heap = H1 → s.vm.Alike t.vm → px u → BX E u t → H.size ≤ H1.size → (∀ q : Nat, q < H.size → ¬ AX q → H1[q]? = H[q]?) → va_S A0 H0 H1 locs1 → H1[q9]? = some ce → ce.vm = .none → s.vm.findClass E = some ce.cls → vx_W p l e R s m args below meth c H1 locs1 (cells + mc) (slots + ms) Q (F0 m pc ls rest) q9)
    (kk : ∀ (r : UInt32) (u : S) (t : State) (H1 : Heap) (locs1 : List Loc), t.heap = H1 → s.vm.Alike t.vm → post r u → B u t → H.size ≤ H1.size → (∀ q : Nat, q < H.size → ¬ A1 q → H1[q]? = H[q]?) → va_S A0 H0 H1 locs1 → W p l e R s m args below meth c H1 locs1 (cells + mc) (slots + ms) Q (F0 m (pc + 3) ls (.float r :: rest))) : W p l e R s m args below meth c H locs cells slots Q (F0 m pc ls st0) := by
  intro T hT X
  rcases hr T hT X with ⟨v, st₀, t, T', L, h0, X', hL, e1, e2, ⟨⟨r, u, hv, hp, hb⟩, hF⟩, st⟩ | ⟨q, st₀, t, T', L, E, ce, h0, X', hL, e1, e2, ⟨u, hp, hb, hF⟩, hce, hcv, hcl, st⟩
  · cases hv
    obtain ⟨k1, k2, k3⟩ := vx_keep h0 e1 hS hA hf hL hF
    obtain ⟨t2, a1, b1⟩ := kk r u t T'.heap (locs ++ L) e1.symm (by rw [← e2]; exact X'.warmed.alike) hp hb k1 k2 k3 T' rfl X'
    exact ⟨t2, st t2 a1, b1⟩
  · obtain ⟨k1, k2, k3⟩ := vx_keep h0 e1 hS hAX hf hL hF
    obtain ⟨t2, a1, b1⟩ := kx E ce q u t T'.heap (locs ++ L) e1.symm (by rw [← e2]; exact X'.warmed.alike) hp hb k1 k2 k3 (by rw [e1]; exact hce) hcv hcl T' rfl X'
    exact ⟨t2, st.trans a1, b1⟩
theorem vx_calld {S SX : Type} {post : UInt64 → S → Prop} {px : SX → Prop} {B : S → State → Prop} {BX : String → SX → State → Prop} {AX : Nat → Prop} (hr : vx_Run p l e R s m args below meth c H locs cells slots mc ms (F0 m pc ls st0) rest (va_Qd post B A1 a) (vx_X px BX AX) free) (hS : va_S A0 H0 H locs) (hA : ∀ q, q < H.size → A1 q → A0 q) (hf : ∀ q, free q → A0 q) (hAX : ∀ q, q < H.size → AX q → A0 q)
    (kx : ∀ (E : String) (ce : Cell) (q9 : Addr) (u : SX) (t : State) (H1 : Heap) (locs1 : List Loc), t.heap = H1 → s.vm.Alike t.vm → px u → BX E u t → H.size ≤ H1.size → (∀ q : Nat, q < H.size → ¬ AX q → H1[q]? = H[q]?) → va_S A0 H0 H1 locs1 → H1[q9]? = some ce → ce.vm = .none → s.vm.findClass E = some ce.cls → vx_W p l e R s m args below meth c H1 locs1 (cells + mc) (slots + ms) Q (F0 m pc ls rest) q9)
    (kk : ∀ (r : UInt64) (u : S) (t : State) (H1 : Heap) (locs1 : List Loc), t.heap = H1 → s.vm.Alike t.vm → post r u → B u t → H.size ≤ H1.size → (∀ q : Nat, q < H.size → ¬ A1 q → H1[q]? = H[q]?) → va_S A0 H0 H1 locs1 → W p l e R s m args below meth c H1 locs1 (cells + mc) (slots + ms) Q (F0 m (pc + 3) ls (.double r :: rest))) : W p l e R s m args below meth c H locs cells slots Q (F0 m pc ls st0) := by
  intro T hT X
  rcases hr T hT X with ⟨v, st₀, t, T', L, h0, X', hL, e1, e2, ⟨⟨r, u, hv, hp, hb⟩, hF⟩, st⟩ | ⟨q, st₀, t, T', L, E, ce, h0, X', hL, e1, e2, ⟨u, hp, hb, hF⟩, hce, hcv, hcl, st⟩
  · cases hv
    obtain ⟨k1, k2, k3⟩ := vx_keep h0 e1 hS hA hf hL hF
    obtain ⟨t2, a1, b1⟩ := kk r u t T'.heap (locs ++ L) e1.symm (by rw [← e2]; exact X'.warmed.alike) hp hb k1 k2 k3 T' rfl X'
    exact ⟨t2, st t2 a1, b1⟩
  · obtain ⟨k1, k2, k3⟩ := vx_keep h0 e1 hS hAX hf hL hF
    obtain ⟨t2, a1, b1⟩ := kx E ce q u t T'.heap (locs ++ L) e1.symm (by rw [← e2]; exact X'.warmed.alike) hp hb k1 k2 k3 (by rw [e1]; exact hce) hcv hcl T' rfl X'
    exact ⟨t2, st.trans a1, b1⟩
theorem vx_callv {S SX : Type} {post : S → Prop} {px : SX → Prop} {B : S → State → Prop} {BX : String → SX → State → Prop} {AX : Nat → Prop} (hr : vx_Run p l e R s m args below meth c H locs cells slots mc ms (F0 m pc ls st0) rest (va_Qv post B A1 a) (vx_X px BX AX) free) (hS : va_S A0 H0 H locs) (hA : ∀ q, q < H.size → A1 q → A0 q) (hf : ∀ q, free q → A0 q) (hAX : ∀ q, q < H.size → AX q → A0 q)
    (kx : ∀ (E : String) (ce : Cell) (q9 : Addr) (u : SX) (t : State) (H1 : Heap) (locs1 : List Loc), t.heap = H1 → s.vm.Alike t.vm → px u → BX E u t → H.size ≤ H1.size → (∀ q : Nat, q < H.size → ¬ AX q → H1[q]? = H[q]?) → va_S A0 H0 H1 locs1 → H1[q9]? = some ce → ce.vm = .none → s.vm.findClass E = some ce.cls → vx_W p l e R s m args below meth c H1 locs1 (cells + mc) (slots + ms) Q (F0 m pc ls rest) q9)
    (kk : ∀ (u : S) (t : State) (H1 : Heap) (locs1 : List Loc), t.heap = H1 → s.vm.Alike t.vm → post u → B u t → H.size ≤ H1.size → (∀ q : Nat, q < H.size → ¬ A1 q → H1[q]? = H[q]?) → va_S A0 H0 H1 locs1 → W p l e R s m args below meth c H1 locs1 (cells + mc) (slots + ms) Q (F0 m (pc + 3) ls (rest))) : W p l e R s m args below meth c H locs cells slots Q (F0 m pc ls st0) := by
  intro T hT X
  rcases hr T hT X with ⟨v, st₀, t, T', L, h0, X', hL, e1, e2, ⟨⟨u, hv, hp, hb⟩, hF⟩, st⟩ | ⟨q, st₀, t, T', L, E, ce, h0, X', hL, e1, e2, ⟨u, hp, hb, hF⟩, hce, hcv, hcl, st⟩
  · cases hv
    obtain ⟨k1, k2, k3⟩ := vx_keep h0 e1 hS hA hf hL hF
    obtain ⟨t2, a1, b1⟩ := kk u t T'.heap (locs ++ L) e1.symm (by rw [← e2]; exact X'.warmed.alike) hp hb k1 k2 k3 T' rfl X'
    exact ⟨t2, st t2 a1, b1⟩
  · obtain ⟨k1, k2, k3⟩ := vx_keep h0 e1 hS hAX hf hL hF
    obtain ⟨t2, a1, b1⟩ := kx E ce q u t T'.heap (locs ++ L) e1.symm (by rw [← e2]; exact X'.warmed.alike) hp hb k1 k2 k3 (by rw [e1]; exact hce) hcv hcl T' rfl X'
    exact ⟨t2, st.trans a1, b1⟩
/-- caught by the row x of this method's table; the rows ahead don't take it -/
theorem vx_catch {own name : String} {E : String} {ce : Cell} {q : Addr} (hown : s.vm.findClass own = some m.cls) (pre : List ExceptionTableEntry) (x : ExceptionTableEntry) (suf : List ExceptionTableEntry) (hsplit : c.exceptionTable.toList = pre ++ x :: suf)
    (hpass : ∀ z ∈ pre, covers z pc = false ∨ (z.catchType ≠ 0 ∧ ∃ nm : String, (Cond.classLink own z.catchType nm).before args s = true ∧ va_Nc E nm s)) (hx : covers x pc = true) (h0 : x.catchType ≠ 0)
    (hlink : (Cond.classLink own x.catchType name).before args s = true) (hcast : (Cond.castable E name).before args s = true) (hcell : H[q]? = some ce) (hv : ce.vm = .none) (hcl : s.vm.findClass E = some ce.cls)
    (kk : W p l e R s m args below meth c H locs cells slots Q (F0 m x.handlerPc ls [.ref q])) : vx_W p l e R s m args below meth c H locs cells slots Q (F0 m pc ls rest) q := by
  intro T hT X
  have hpl : e.platform.magicAccessors = ({} : Platform).magicAccessors := by rw [X.admits.platform]
  obtain ⟨c3, c4, hc3, hc4, hasg⟩ := Cond.castable_spec hcast
  cases Option.some.inj (hc3.symm.trans hcl)
  obtain ⟨c5, hc5, hcl5⟩ := Cond.classLink_spec hown hlink e.platform hpl
  cases Option.some.inj (hc4.symm.trans hc5)
  obtain ⟨vm', X', st⟩ := X.thenCaughtThrough q (g := F0 m pc ls rest) rfl (Steps.refl _) (by rw [hT]; exact hcell) (by rw [hv]; rfl) (by obtain ⟨k9, h9, -⟩ := Vm.findClass_spec hcl; exact ⟨k9, h9⟩) pre x suf hsplit
    (fun z hz => by
      rcases hpass z hz with h | ⟨hz0, nm, hl1, hn1⟩
      · exact Or.inl h
      · obtain ⟨c6, hc6, hcl6⟩ := Cond.classLink_spec hown hl1 e.platform hpl
        obtain ⟨a8, b8, h1, h2, h3⟩ := hn1
        cases Option.some.inj (h1.symm.trans hcl)
        cases Option.some.inj (h2.symm.trans hc6)
        exact Or.inr ⟨hz0, _, hcl6, h3⟩) hx (Or.inr ⟨h0, c4, hcl5, hasg⟩)
  obtain ⟨t, a1, b1⟩ := kk (T.setVm vm') hT X'
  exact ⟨t, st.trans a1, b1⟩
end Rows
section Ends
variable {p : Program} {l : Launch} {e : Env} {R : Room} {s : State} {m : MethodId} {args : Array Value} {below : List Frame} {meth : Method} {c : Code} {H : Heap} {locs : List Loc} {cells slots : Nat} {Q : State → Prop}
variable {mc ms : Nat} {free : Addr → Prop} {A0 A1 : Nat → Prop} {H0 : Heap} {a : Array Value} {ls : Array Slot} {st0 rest : List Value}
variable {Qc : Array Value → State → Outcome → State → Prop} {XC : String → State → State → Prop}
/-- what a body that may throw owes at its end -/
def vx_MQ (below : List Frame) (Qc : Array Value → State → Outcome → State → Prop) (XC : String → State → State → Prop) (a : Array Value) (s : State) (mc ms : Nat) (free : Addr → Prop) : State → Prop := fun t =>
  ∃ o, t.status = .running ∧ Ended t below o ∧ vx_Q Qc XC mc ms free a s o t
theorem vx_ret {g : JFrame} {mc ms : Nat} (k : W p l e R s m args below meth c H locs cells slots (MQ below Qc args s mc ms free) g) : W p l e R s m args below meth c H locs cells slots (vx_MQ below Qc XC args s mc ms free) g := by
  intro T hT X
  obtain ⟨t, a1, o, b1, b2, b3, b4⟩ := k T hT X
  exact ⟨t, a1, o, b1, b2, Or.inl ⟨b3, b4⟩⟩
/-- not caught here: it goes on to the caller -/
theorem vx_widen {g : JFrame} {q : Addr} {k n : Nat} (h1 : cells ≤ k) (h2 : slots ≤ n) (kk : vx_W p l e R s m args below meth c H locs k n Q g q) : vx_W p l e R s m args below meth c H locs cells slots Q g q := fun T hT X => kk T hT (stand_widen X h1 h2)
theorem vx_out {pc : Nat} {E : String} {ce : Cell} {q : Addr} {mc ms : Nat} (hout : ∀ x ∈ c.exceptionTable.toList, covers x pc = false) (hlocks : meth.locks = false) (hcell : H[q]? = some ce) (hv : ce.vm = .none) (hcl : s.vm.findClass E = some ce.cls)
    (hx : ∀ t : State, t.heap = H → s.vm.Alike t.vm → XC E s t) (hf : ∀ z ∈ locs, free z.base) (hc : cells ≤ mc) (hs : slots ≤ ms) :
    vx_W p l e R s m args below meth c H locs cells slots (vx_MQ below Qc XC args s mc ms free) (F0 m pc ls rest) q := by
  intro T hT X
  obtain ⟨st1, hrun, hend, hW, hsm⟩ := X.leaveThrown q (g := F0 m pc ls rest) rfl rfl rfl hout hlocks
  have hcell9 : (T.setFrames (.throwing q :: below)).heap[q]? = some ce := by
    show T.heap[q]? = some ce
    rw [hT]; exact hcell
  exact ⟨_, st1, .threw q, hrun, hend, Or.inr ⟨q, rfl, E, ce, locs, hx _ hT hW.alike, hcell9, hv, hcl, hW, hsm.mono hc hs, hf⟩⟩
theorem vx_frame {U : State} {k n : Nat} (h : s.sameButNew ({ U with vm := s.vm } : State) locs k n) : s.heap.size ≤ U.heap.size ∧ ∀ q : Nat, q < s.heap.size → (∀ z ∈ locs, z.base ≠ q) → U.heap[q]? = s.heap[q]? := by
  obtain ⟨-, h2, -, -, -, h6⟩ := h
  refine ⟨h2, fun q hq hz => ?_⟩
  obtain ⟨c9, e1, e2, e3, e4⟩ := h6 q _ (Array.getElem?_eq_getElem hq)
  have hs : c9.slots = (s.heap[q]).slots := Array.ext_getElem? fun i => e4 i fun hm => hz _ hm rfl
  have h9 : c9 = s.heap[q] := by
    rw [hs] at e2
    exact e2
  have e5 : U.heap[q]? = some c9 := e1
  rw [e5, h9, Array.getElem?_eq_getElem hq]
/-- the words of a throw but the four that speak of the heap -/
def vx_no (w : Cond) : Bool := decide (w ≠ .isRef (.static Bundle.tN "UNASSIGNED_STACK" Bundle.steD)) && decide (w ≠ .isRef (.static Bundle.tN "SUPPRESSED_SENTINEL" Bundle.listD)) && decide (w ≠ .laysStatic Bundle.tN "UNASSIGNED_STACK" Bundle.steD) && decide (w ≠ .laysStatic Bundle.tN "SUPPRESSED_SENTINEL" Bundle.listD)
def vx_at0 (own : String) (ic : Nat) (X : String) (names : List String) : List Cond := (Bundle.ownAtoms0 own ic X names).filter vx_no
def vx_atS (own : String) (ic : Nat) (X : String) (names : List String) : List Cond := (Bundle.ownAtoms own ic X names).filter vx_no
/-- a word that the tables alone decide, or a good one -/
def vx_ot (w : Cond) : Bool := w.onTables || goodWord w
theorem vx_ot_at {args a' : Array Value} {s U : State} {w : Cond} (hW : s.WarmedH U.vm) (hvm : s.vm = U.vm) (hg : vx_ot w = true) (h : w.before args s = true) : w.before a' U = true := by
  simp only [vx_ot, Bool.or_eq_true] at hg
  rcases hg with hg | hg
  · exact va_tabs hg hvm h
  · exact word_at hW (good_of_word hg) h
/-- a list's words: the good ones out of the method's own list, the others by premises of their own -/
theorem vx_hat {args : Array Value} {s : State} {L B : List Cond} (h1 : ∀ w ∈ L.filter goodWord, w.before args s = true) (h2 : ∀ w ∈ L.filter (fun w => !goodWord w), w ∈ B) (h3 : ∀ w ∈ B, w.before args s = true) : ∀ w ∈ L, w.before args s = true := by
  intro w hw
  by_cases g : goodWord w = true
  · exact h1 w (List.mem_filter.mpr ⟨hw, g⟩)
  · refine h3 w (h2 w (List.mem_filter.mpr ⟨hw, ?_⟩))
    show (!goodWord w) = true
    cases hgw : goodWord w
    · rfl
    · exact absurd hgw g
theorem vx_c {args : Array Value} {s : State} {w : Cond} {B : List Cond} (h : w.before args s = true) (t : ∀ w ∈ B, w.before args s = true) : ∀ w' ∈ w :: B, w'.before args s = true := fun w' h' => (List.mem_cons.mp h').elim (fun e => by rw [e]; exact h) (t w')
theorem vx_n {args : Array Value} {s : State} : ∀ w ∈ ([] : List Cond), w.before args s = true := fun _ h => nomatch h
theorem vx_own {args : Array Value} {s : State} {L : List Cond} (h1 : ∀ w ∈ L.filter vx_no, w.before args s = true)
    (hU : (Cond.isRef (.static Bundle.tN "UNASSIGNED_STACK" Bundle.steD)).before args s = true) (hN : (Cond.isRef (.static Bundle.tN "SUPPRESSED_SENTINEL" Bundle.listD)).before args s = true)
    (lU : (Cond.laysStatic Bundle.tN "UNASSIGNED_STACK" Bundle.steD).before args s = true) (lN : (Cond.laysStatic Bundle.tN "SUPPRESSED_SENTINEL" Bundle.listD).before args s = true) : ∀ w ∈ L, w.before args s = true := by
  intro w hw
  by_cases e1 : w = .isRef (.static Bundle.tN "UNASSIGNED_STACK" Bundle.steD)
  · rw [e1]; exact hU
  · by_cases e2 : w = .isRef (.static Bundle.tN "SUPPRESSED_SENTINEL" Bundle.listD)
    · rw [e2]; exact hN
    · by_cases e3 : w = .laysStatic Bundle.tN "UNASSIGNED_STACK" Bundle.steD
      · rw [e3]; exact lU
      · by_cases e4 : w = .laysStatic Bundle.tN "SUPPRESSED_SENTINEL" Bundle.listD
        · rw [e4]; exact lN
        · exact h1 w (List.mem_filter.mpr ⟨hw, by unfold vx_no; rw [decide_eq_true e1, decide_eq_true e2, decide_eq_true e3, decide_eq_true e4]; rfl⟩)
/-- where a static field lies, its class's statics cell in H -/
def vx_L (C n d : String) (A : Nat → Prop) (U : State) (H : Heap) : Prop := ∃ (c : ClassId) (k : Class) (i : Nat) (f : Field) (a : Nat) (cell : Cell), U.vm.findClass C = some c ∧ U.fieldFound? C n d = some (c, k, i, f) ∧ f.isStatic = true ∧ k.statics = some a ∧ H[a]? = some cell ∧ cell.vm.isStatics = true ∧ cell.cls = c ∧ f.slot < cell.slots.size ∧ k.staticTypes[f.slot]? = some f.type ∧ ¬ A a
theorem vx_L.moved {C n d : String} {A : Nat → Prop} {u U : State} {H : Heap} (hvm : u.vm.Alike U.vm) (h : vx_L C n d A u H) : vx_L C n d A U H := by
  obtain ⟨c, k, i, f, a, cell, h1, h2, h3, h4, h5, h6, h7, h8, h9, h10⟩ := h
  obtain ⟨k', hi', he⟩ := State.fieldFound?_setVm hvm h2
  exact ⟨c, k', i, f, a, cell, by rw [hvm.findClass]; exact h1, hi', h3, by rw [he]; exact h4, h5, h6, h7, h8, by rw [he]; exact h9, h10⟩
theorem vx_L.kept {C n d : String} {A : Nat → Prop} {U : State} {H H1 : Heap} (h : vx_L C n d A U H) (hq : ∀ a : Nat, a < H.size → ¬ A a → H1[a]? = H[a]?) : vx_L C n d A U H1 := by
  obtain ⟨c, k, i, f, a, cell, h1, h2, h3, h4, h5, h6, h7, h8, h9, h10⟩ := h
  exact ⟨c, k, i, f, a, cell, h1, h2, h3, h4, by rw [hq a (Array.getElem?_eq_some_iff.mp h5).1 h10]; exact h5, h6, h7, h8, h9, h10⟩
theorem vx_L.narrow {C n d : String} {A B : Nat → Prop} {U : State} {H : Heap} (h : vx_L C n d A U H) (hAB : ∀ q, B q → A q) : vx_L C n d B U H := by
  obtain ⟨c, k, i, f, a, cell, h1, h2, h3, h4, h5, h6, h7, h8, h9, h10⟩ := h
  exact ⟨c, k, i, f, a, cell, h1, h2, h3, h4, h5, h6, h7, h8, h9, fun z => h10 (hAB _ z)⟩
theorem vx_L.word {C n d : String} {A : Nat → Prop} {s : State} {args : Array Value} (h : vx_L C n d A s s.heap) : (Cond.laysStatic C n d).before args s = true := by
  obtain ⟨c, k, i, f, a, cell, h1, h2, h3, h4, h5, h6, h7, h8, h9, -⟩ := h
  show (Cond.laysStatic C n d).holds args s none s [] = true
  exact Cond.laysStatic_of h1 h2 h3 h4 h5 h6 h7 h8 h9
/-- .. and what it holds: null or some reference -/
def vx_Zq (C n d : String) (A : Nat → Prop) (U : State) (H : Heap) : Prop := va_Zq C n d A U H ∧ vx_L C n d A U H
theorem vx_Zq.moved {C n d : String} {A : Nat → Prop} {u U : State} {H : Heap} (hvm : u.vm.Alike U.vm) (h : vx_Zq C n d A u H) : vx_Zq C n d A U H := ⟨va_Zq.moved hvm h.1, vx_L.moved hvm h.2⟩
theorem vx_Zq.kept {C n d : String} {A : Nat → Prop} {U : State} {H H1 : Heap} (h : vx_Zq C n d A U H) (hq : ∀ a : Nat, a < H.size → ¬ A a → H1[a]? = H[a]?) : vx_Zq C n d A U H1 := ⟨va_Zq.kept h.1 hq, vx_L.kept h.2 hq⟩
theorem vx_Zq.narrow {C n d : String} {A B : Nat → Prop} {U : State} {H : Heap} (h : vx_Zq C n d A U H) (hAB : ∀ q, B q → A q) : vx_Zq C n d B U H := ⟨va_Zq.narrow h.1 hAB, vx_L.narrow h.2 hAB⟩
theorem vx_Zqof {args : Array Value} {s : State} {C n d : String} {A : Nat → Prop} (hl : (Cond.laysStatic C n d).before args s = true) (hini : (Cond.initialized C).before args s = true) (h : (Cond.isRef (.static C n d)).before args s = true) (hA : ∀ a : Nat, a < s.heap.size → ¬ A a) : vx_Zq C n d A s s.heap := by
  refine ⟨va_Zqof hl hini h hA, ?_⟩
  obtain ⟨c, k, i, f, a, cell, h1, h2, h3, h4, h5, h6, h7, h8, h9⟩ := Cond.laysStatic_spec hl
  exact ⟨c, k, i, f, a, cell, h1, h2, h3, h4, h5, h6, h7, h8, h9, hA a (Array.getElem?_eq_some_iff.mp h5).1⟩
theorem vx_isRef {C n d : String} {v : Value} {A : Nat → Prop} {s : State} {args : Array Value} (h : va_Z C n d v A s s.heap) (hv : v.isRef = true) : (Cond.isRef (.static C n d)).before args s = true := by
  obtain ⟨cf, kf, fi, f, a, cell, h1, h2, h3, h4, h5, h6, h7, -⟩ := h
  have he : (Term.static C n d).eval args s none [] s = some v := by
    simp [Term.eval, State.fieldNamed?, h1, h2, h4, h5, h6, h7]
  simp only [Cond.before, Cond.holds, Cond.value, he]
  cases v <;> simp_all [Value.isRef]
theorem vx_isRefq {C n d : String} {A : Nat → Prop} {s : State} {args : Array Value} (h : va_Zq C n d A s s.heap) : (Cond.isRef (.static C n d)).before args s = true := by
  rcases h with h | ⟨t, h⟩
  · exact vx_isRef h rfl
  · exact vx_isRef h rfl
/-- the same frame, seen from here: as if the method were called anew in this heap -/
theorem vx_rebase {T : State} (X : Stand p l e R s m args below meth c T locs cells slots) {R' : Room} (hf : R'.frames ≤ R.frames) (hl : R'.locals ≤ R.locals) (hc : cells + R'.cells ≤ R.cells) (hs : slots + R'.slots ≤ R.slots) :
    Stand p l e R' ((T.setVm s.vm).setFrames (.invoking m args :: below)) m args below meth c T [] 0 0 := by
  have htop : (T.setVm s.vm).topJava?.isSome := X.here.top
  have hF : ((T.setVm s.vm).setFrames (.invoking m args :: below)).frames = .invoking m args :: below := State.frames_setFrames _ (State.cur_lt_of_top htop)
  obtain ⟨g₀, hg0⟩ := Option.isSome_iff_exists.mp htop
  obtain ⟨r, hr⟩ := State.topJava?_eq_some.mp hg0
  have hl9 : e.platform.stackLimits (T.setVm s.vm).me = e.platform.stackLimits s.me := X.limits
  have hb9 : (T.setVm s.vm).me.stackBytes = s.me.stackBytes := X.bytes
  refine ⟨X.admits, X.cas, X.clock, hF, ?_, X.hears, X.method, X.code, X.here, X.tail, X.warmed, ?_, ?_, ?_⟩
  · have h := X.room
    have hU : ((T.setVm s.vm).setFrames (.invoking m args :: below)).localsInUse = s.localsInUse := by
      rw [State.localsInUse_invoking hF (meth := meth) (c := c) X.method X.code, State.localsInUse_invoking X.frames X.method X.code]
    simp only [State.hasRoom, Bool.and_eq_true, decide_eq_true_eq] at h ⊢
    obtain ⟨⟨⟨⟨h1, h2, h3, h4, h5, h6⟩, h7⟩, h8⟩, h9⟩ := h
    rw [X.frames, List.length_cons] at h2 h3
    have q1 := X.heapSize
    have q2 := X.used
    simp only [hF, hU, List.length_cons, State.stackLimits_setFrames, State.stackBytes_setFrames, hl9, hb9]
    refine ⟨⟨⟨⟨by omega, by omega, by omega, by omega, by omega, h6⟩, ?_⟩, ?_⟩, X.book⟩
    · show T.heap.size + R'.cells ≤ e.platform.maxCells
      omega
    · show T.slotsUsed + R'.slots ≤ e.platform.maxSlots
      omega
  · rw [State.stackLimits_setFrames]; rfl
  · rw [State.stackBytes_setFrames]; rfl
  · refine ⟨?_, Nat.le_refl _, Nat.le_refl _, ?_, ?_, fun a c9 h9 => ⟨c9, h9, rfl, rfl, fun _ _ => rfl⟩⟩
    · obtain ⟨t, ht, -⟩ := State.frames_cons hr
      show T.setVm s.vm = { ((T.setVm s.vm).setFrames (.invoking m args :: below)).setFrames (T.setVm s.vm).frames with heap := T.heap, slotsUsed := T.slotsUsed }
      rw [State.setFrames_setFrames, State.setFrames_self ht]
      rfl
    · show T.slotsUsed = T.slotsUsed + ((T.heap.toList.drop T.heap.size).map (·.slots.size)).sum
      rw [List.drop_eq_nil_of_le (Nat.le_of_eq Array.length_toList)]
      rfl
    · show ((T.heap.toList.drop T.heap.size).map (·.slots.size)).sum ≤ 0
      rw [List.drop_eq_nil_of_le (Nat.le_of_eq Array.length_toList)]
      exact Nat.le_refl _
/-- 'throw new E()': new; dup; invokespecial; athrow -/
theorem vx_throw0 {cc : ByteArray} {pc : Nat} (hexec : p.tables.exec = Jvm.exec) (hb : c.code = cc) (hl : l.stackTraces = false) {own cls : String} {names : List String} {ik ic mc ms : Nat} {A : Nat → Prop}
    (hown : s.vm.findClass own = some m.cls) (hcls : Bundle.fit cls = true) (hnames : ∀ n ∈ names, Bundle.fit n = true)
    (hk : (Cond.classLink own ik cls).before args s = true) (hini : (Cond.initialized cls).before args s = true) (hat : ∀ w ∈ vx_at0 own ic cls names, w.before args s = true)
    (hgood : ∀ w ∈ Cond.classLink own ik cls :: Cond.initialized cls :: vx_at0 own ic cls names, vx_ot w = true)
    (hU : vx_Zq Bundle.tN "UNASSIGNED_STACK" Bundle.steD A s s.heap) (hN : vx_Zq Bundle.tN "SUPPRESSED_SENTINEL" Bundle.listD A s s.heap) (hS : va_S A s.heap H locs) (hsize : ls.size = c.maxLocals)
    (d0 : decode cc pc = .ok (.new ik, 3)) (d3 : decode cc (pc + 3) = .ok (.dup, 1)) (d4 : decode cc (pc + 4) = .ok (.invokespecial ic, 3)) (d7 : decode cc (pc + 7) = .ok (.athrow, 1))
    (hout : ∀ x ∈ c.exceptionTable.toList, covers x (pc + 7) = false)
    (hRframes : names.length + 3 < R.frames) (hRlocals : (rest.map fun v => v.category).sum + (13 * (names.length + 1) + 42) ≤ R.locals) (hRcells : cells + 1 ≤ R.cells) (hRslots : slots + 6 ≤ R.slots) (hlocks : meth.locks = false)
    (hx : ∀ t : State, s.vm.Alike t.vm → H.size ≤ t.heap.size → (∀ q : Nat, q < H.size → t.heap[q]? = H[q]?) → XC cls s t)
    (hf : ∀ z ∈ locs, free z.base) (hc : cells + 1 ≤ mc) (hs : slots + 6 ≤ ms) :
    W p l e R s m args below meth c H locs cells slots (vx_MQ below Qc XC args s mc ms free) (F0 m pc ls rest) := by
  intro T hT X
  have htr : e.platform.stackTraces = false := (show e.platform.stackTraces = l.stackTraces by rw [X.admits.platform]).trans hl
  have Y := vx_rebase X (R' := { frames := R.frames, locals := R.locals, cells := 1, slots := 6 }) (Nat.le_refl _) (Nat.le_refl _) hRcells hRslots
  obtain ⟨s', hA⟩ : ∃ z, z = (T.setVm s.vm).setFrames (.invoking m args :: below) := ⟨_, rfl⟩
  rw [← hA] at Y
  have hvm : s'.vm = s.vm := by rw [hA]; rfl
  have hhp : s'.heap = H := by rw [hA]; exact hT
  have hW0 : s.WarmedH s'.vm := by rw [hvm]; exact State.WarmedH.refl s
  have hat' : ∀ w ∈ vx_at0 own ic cls names, w.before args s' = true := fun w hw => vx_ot_at hW0 hvm.symm (hgood w (List.mem_cons_of_mem _ (List.mem_cons_of_mem _ hw))) (hat w hw)
  have hk' : (Cond.classLink own ik cls).before args s' = true := vx_ot_at hW0 hvm.symm (hgood _ List.mem_cons_self) hk
  have hini' : (Cond.initialized cls).before args s' = true := vx_ot_at hW0 hvm.symm (hgood _ (List.mem_cons_of_mem _ List.mem_cons_self)) hini
  have hU' : vx_Zq Bundle.tN "UNASSIGNED_STACK" Bundle.steD A s' s'.heap := by rw [hhp]; exact vx_Zq.moved hW0.alike (hU.kept hS.2.1)
  have hN' : vx_Zq Bundle.tN "SUPPRESSED_SENTINEL" Bundle.listD A s' s'.heap := by rw [hhp]; exact vx_Zq.moved hW0.alike (hN.kept hS.2.1)
  have h : ∀ w ∈ Bundle.ownAtoms0 own ic cls names, w.before args s' = true := vx_own hat' (vx_isRefq hU'.1) (vx_isRefq hN'.1) hU'.2.word hN'.2.word
  have hown' : s'.vm.findClass own = some m.cls := by rw [hvm]; exact hown
  have hins : (Cond.instantiable cls 6).before args s' = true := h _ (by simp [Bundle.ownAtoms0])
  obtain ⟨vm₁, cX, kX, hfX, hkX, -, -, X₁, st1⟩ := Y.newCold hexec (own := own) (C := cls) (index := ik) (n := 6) hown' hk' hins hini'
    (g := F0 m pc ls rest) rfl (by rw [hb]; exact d0) (Nat.le_refl _) (Nat.le_refl _)
  generalize hT1 : (T.setVm vm₁).pushCell { cls := cX, slots := kX.instanceTypes.map defaultValue, vm := .none } = T1 at X₁ st1
  have hcat : (Value.ref T.heap.size).category = 1 := rfl
  have hcellA : T1.heap[T.heap.size]? = some (freshCell cX kX) := by rw [← hT1]; exact State.heap_pushCell_size _ _
  have d3' : decode c.code (pc + 3) = .ok (.dup, 1) := by rw [hb]; exact d3
  obtain ⟨U, hsteps, hrun, hend, hW, hsame, ce, hce, hO⟩ := X₁.ctorThrow0 hexec htr (own := own) (cls := cls) (names := names) (ic := ic) hown' hcls hnames h (fun x hx => nomatch hx) hfX hkX hcellA (by rw [hhp, hT]; exact Nat.le_refl _)
    (g := { method := m, pc := pc + 4, locals := ls, stack := .ref T.heap.size :: .ref T.heap.size :: rest, locked := none }) rfl hsize rfl rfl (rest := rest) rfl
    (by rw [hb]; exact d4) (by rw [hb]; exact d7) hout hRframes (by simp only [List.map_cons, List.sum_cons, hcat]; omega) hlocks
  obtain ⟨f1, f2⟩ := vx_frame hsame
  rw [hhp] at f1 f2
  have hWs : s.WarmedH U.vm := State.WarmedH.trans hW0 hW
  have hcl : s.vm.findClass cls = some ce.cls := by
    have h9 := hO.cls
    rw [hvm] at h9
    exact h9
  have hall : s.sameButNew ({ U with vm := s.vm } : State) locs mc ms := by
    subst hA
    obtain ⟨e1, e2⟩ := hsame
    rw [State.setFrames_setFrames] at e1
    have h2 : (T.setVm s.vm).sameButNew ({ U with vm := s.vm } : State) [] (0 + 1) (0 + 6) := ⟨e1, e2⟩
    have h3 := X.same.trans h2
    rw [List.append_nil] at h3
    exact h3.mono hc hs
  refine ⟨U, ?_, .threw T.heap.size, hrun, hend, Or.inr ⟨T.heap.size, rfl, cls, ce, locs, hx U hWs.alike f1 (fun q hq => f2 q hq (fun z hz => nomatch hz)), hce, hO.vm, hcl, hWs, hall, hf⟩⟩
  refine st1 _ ?_
  show Steps p.tables e below (T1.setTop { method := m, pc := pc + 3, locals := ls, stack := .ref T.heap.size :: rest, locked := none }) _
  jvm_step X₁.here [X₁.here.top, hexec, d3', Value.category]
  exact hsteps
/-- 'throw new E("text")': new; dup; ldc; invokespecial; athrow -/
theorem vx_throwS {cc : ByteArray} {pc : Nat} (hexec : p.tables.exec = Jvm.exec) (hb : c.code = cc) (hl : l.stackTraces = false) {own cls text : String} {names : List String} {ik is ic mc ms sa : Nat} {A : Nat → Prop}
    (hown : s.vm.findClass own = some m.cls) (hcls : Bundle.fit cls = true) (hnames : ∀ n ∈ names, Bundle.fit n = true)
    (hk : (Cond.classLink own ik cls).before args s = true) (hini : (Cond.initialized cls).before args s = true) (hstr : vk_R own is text sa s) (hat : ∀ w ∈ vx_atS own ic cls names, w.before args s = true)
    (hgood : ∀ w ∈ Cond.classLink own ik cls :: Cond.initialized cls :: vx_atS own ic cls names, vx_ot w = true)
    (hU : vx_Zq Bundle.tN "UNASSIGNED_STACK" Bundle.steD A s s.heap) (hN : vx_Zq Bundle.tN "SUPPRESSED_SENTINEL" Bundle.listD A s s.heap) (hS : va_S A s.heap H locs) (hsize : ls.size = c.maxLocals)
    (d0 : decode cc pc = .ok (.new ik, 3)) (d3 : decode cc (pc + 3) = .ok (.dup, 1)) (d4 : decode cc (pc + 4) = .ok (.ldc is, 2)) (d6 : decode cc (pc + 6) = .ok (.invokespecial ic, 3)) (d9 : decode cc (pc + 9) = .ok (.athrow, 1))
    (hout : ∀ x ∈ c.exceptionTable.toList, covers x (pc + 9) = false)
    (hRframes : names.length + 3 < R.frames) (hRlocals : (rest.map fun v => v.category).sum + (13 * (names.length + 1) + 43) ≤ R.locals) (hRcells : cells + 1 ≤ R.cells) (hRslots : slots + 6 ≤ R.slots) (hlocks : meth.locks = false)
    (hx : ∀ t : State, s.vm.Alike t.vm → H.size ≤ t.heap.size → (∀ q : Nat, q < H.size → t.heap[q]? = H[q]?) → XC cls s t)
    (hf : ∀ z ∈ locs, free z.base) (hc : cells + 1 ≤ mc) (hs : slots + 6 ≤ ms) :
    W p l e R s m args below meth c H locs cells slots (vx_MQ below Qc XC args s mc ms free) (F0 m pc ls rest) := by
  intro T hT X
  have htr : e.platform.stackTraces = false := (show e.platform.stackTraces = l.stackTraces by rw [X.admits.platform]).trans hl
  have Y := vx_rebase X (R' := { frames := R.frames, locals := R.locals, cells := 1, slots := 6 }) (Nat.le_refl _) (Nat.le_refl _) hRcells hRslots
  obtain ⟨s', hA⟩ : ∃ z, z = (T.setVm s.vm).setFrames (.invoking m args :: below) := ⟨_, rfl⟩
  rw [← hA] at Y
  have hvm : s'.vm = s.vm := by rw [hA]; rfl
  have hhp : s'.heap = H := by rw [hA]; exact hT
  have hW0 : s.WarmedH s'.vm := by rw [hvm]; exact State.WarmedH.refl s
  have hat' : ∀ w ∈ vx_atS own ic cls names, w.before args s' = true := fun w hw => vx_ot_at hW0 hvm.symm (hgood w (List.mem_cons_of_mem _ (List.mem_cons_of_mem _ hw))) (hat w hw)
  have hk' : (Cond.classLink own ik cls).before args s' = true := vx_ot_at hW0 hvm.symm (hgood _ List.mem_cons_self) hk
  have hini' : (Cond.initialized cls).before args s' = true := vx_ot_at hW0 hvm.symm (hgood _ (List.mem_cons_of_mem _ List.mem_cons_self)) hini
  have hU' : vx_Zq Bundle.tN "UNASSIGNED_STACK" Bundle.steD A s' s'.heap := by rw [hhp]; exact vx_Zq.moved hW0.alike (hU.kept hS.2.1)
  have hN' : vx_Zq Bundle.tN "SUPPRESSED_SENTINEL" Bundle.listD A s' s'.heap := by rw [hhp]; exact vx_Zq.moved hW0.alike (hN.kept hS.2.1)
  have h : ∀ w ∈ Bundle.ownAtoms own ic cls names, w.before args s' = true := vx_own hat' (vx_isRefq hU'.1) (vx_isRefq hN'.1) hU'.2.word hN'.2.word
  have hown' : s'.vm.findClass own = some m.cls := by rw [hvm]; exact hown
  have hins : (Cond.instantiable cls 6).before args s' = true := h _ (by simp [Bundle.ownAtoms])
  obtain ⟨vm₁, cX, kX, hfX, hkX, -, -, X₁, st1⟩ := Y.newCold hexec (own := own) (C := cls) (index := ik) (n := 6) hown' hk' hins hini'
    (g := F0 m pc ls rest) rfl (by rw [hb]; exact d0) (Nat.le_refl _) (Nat.le_refl _)
  generalize hT1 : (T.setVm vm₁).pushCell { cls := cX, slots := kX.instanceTypes.map defaultValue, vm := .none } = T1 at X₁ st1
  have hcat : (Value.ref T.heap.size).category = 1 := rfl
  have hcellA : T1.heap[T.heap.size]? = some (freshCell cX kX) := by rw [← hT1]; exact State.heap_pushCell_size _ _
  have d3' : decode c.code (pc + 3) = .ok (.dup, 1) := by rw [hb]; exact d3
  have d4' : decode c.code (pc + 4) = .ok (.ldc is, 2) := by rw [hb]; exact d4
  have hstr' : vk_R own is text sa s' := vk_R.warm hW0 hstr
  obtain ⟨U, hsteps, hrun, hend, hW, hsame, ce, hce, hO⟩ := X₁.ctorThrowS hexec htr (own := own) (cls := cls) (names := names) (ic := ic) hown' hcls hnames h (fun x hx => nomatch hx) hfX hkX hcellA (by rw [hhp, hT]; exact Nat.le_refl _) (msg := .ref sa) rfl
    (g := { method := m, pc := pc + 6, locals := ls, stack := .ref sa :: .ref T.heap.size :: .ref T.heap.size :: rest, locked := none }) rfl hsize rfl rfl (rest := rest) rfl
    (by rw [hb]; exact d6) (by rw [hb]; exact d9) hout hRframes (by simp only [List.map_cons, List.sum_cons, hcat]; omega) hlocks
  obtain ⟨f1, f2⟩ := vx_frame hsame
  rw [hhp] at f1 f2
  have hWs : s.WarmedH U.vm := State.WarmedH.trans hW0 hW
  have hcl : s.vm.findClass cls = some ce.cls := by
    have h9 := hO.cls
    rw [hvm] at h9
    exact h9
  have hall : s.sameButNew ({ U with vm := s.vm } : State) locs mc ms := by
    subst hA
    obtain ⟨e1, e2⟩ := hsame
    rw [State.setFrames_setFrames] at e1
    have h2 : (T.setVm s.vm).sameButNew ({ U with vm := s.vm } : State) [] (0 + 1) (0 + 6) := ⟨e1, e2⟩
    have h3 := X.same.trans h2
    rw [List.append_nil] at h3
    exact h3.mono hc hs
  refine ⟨U, ?_, .threw T.heap.size, hrun, hend, Or.inr ⟨T.heap.size, rfl, cls, ce, locs, hx U hWs.alike f1 (fun q hq => f2 q hq (fun z hz => nomatch hz)), hce, hO.vm, hcl, hWs, hall, hf⟩⟩
  refine st1 _ ?_
  show Steps p.tables e below (T1.setTop { method := m, pc := pc + 3, locals := ls, stack := .ref T.heap.size :: rest, locked := none }) _
  jvm_step X₁.here [X₁.here.top, hexec, d3', Value.category]
  exact X₁.ldcString hexec (own := own) (text := text) (index := is) (a := sa) hown' hstr'.1 hstr'.2
    (g := { method := m, pc := pc + 4, locals := ls, stack := .ref T.heap.size :: .ref T.heap.size :: rest, locked := none }) rfl d4' _ hsteps
/-- 'throw new E("text")', the text by a wide index -/
theorem vx_throwSW {cc : ByteArray} {pc : Nat} (hexec : p.tables.exec = Jvm.exec) (hb : c.code = cc) (hl : l.stackTraces = false) {own cls text : String} {names : List String} {ik is ic mc ms sa : Nat} {A : Nat → Prop}
    (hown : s.vm.findClass own = some m.cls) (hcls : Bundle.fit cls = true) (hnames : ∀ n ∈ names, Bundle.fit n = true)
    (hk : (Cond.classLink own ik cls).before args s = true) (hini : (Cond.initialized cls).before args s = true) (hstr : vk_R own is text sa s) (hat : ∀ w ∈ vx_atS own ic cls names, w.before args s = true)
    (hgood : ∀ w ∈ Cond.classLink own ik cls :: Cond.initialized cls :: vx_atS own ic cls names, vx_ot w = true)
    (hU : vx_Zq Bundle.tN "UNASSIGNED_STACK" Bundle.steD A s s.heap) (hN : vx_Zq Bundle.tN "SUPPRESSED_SENTINEL" Bundle.listD A s s.heap) (hS : va_S A s.heap H locs) (hsize : ls.size = c.maxLocals)
    (d0 : decode cc pc = .ok (.new ik, 3)) (d3 : decode cc (pc + 3) = .ok (.dup, 1)) (d4 : decode cc (pc + 4) = .ok (.ldc_w is, 3)) (d7 : decode cc (pc + 7) = .ok (.invokespecial ic, 3)) (d10 : decode cc (pc + 10) = .ok (.athrow, 1))
    (hout : ∀ x ∈ c.exceptionTable.toList, covers x (pc + 10) = false)
    (hRframes : names.length + 3 < R.frames) (hRlocals : (rest.map fun v => v.category).sum + (13 * (names.length + 1) + 43) ≤ R.locals) (hRcells : cells + 1 ≤ R.cells) (hRslots : slots + 6 ≤ R.slots) (hlocks : meth.locks = false)
    (hx : ∀ t : State, s.vm.Alike t.vm → H.size ≤ t.heap.size → (∀ q : Nat, q < H.size → t.heap[q]? = H[q]?) → XC cls s t)
    (hf : ∀ z ∈ locs, free z.base) (hc : cells + 1 ≤ mc) (hs : slots + 6 ≤ ms) :
    W p l e R s m args below meth c H locs cells slots (vx_MQ below Qc XC args s mc ms free) (F0 m pc ls rest) := by
  intro T hT X
  have htr : e.platform.stackTraces = false := (show e.platform.stackTraces = l.stackTraces by rw [X.admits.platform]).trans hl
  have Y := vx_rebase X (R' := { frames := R.frames, locals := R.locals, cells := 1, slots := 6 }) (Nat.le_refl _) (Nat.le_refl _) hRcells hRslots
  obtain ⟨s', hA⟩ : ∃ z, z = (T.setVm s.vm).setFrames (.invoking m args :: below) := ⟨_, rfl⟩
  rw [← hA] at Y
  have hvm : s'.vm = s.vm := by rw [hA]; rfl
  have hhp : s'.heap = H := by rw [hA]; exact hT
  have hW0 : s.WarmedH s'.vm := by rw [hvm]; exact State.WarmedH.refl s
  have hat' : ∀ w ∈ vx_atS own ic cls names, w.before args s' = true := fun w hw => vx_ot_at hW0 hvm.symm (hgood w (List.mem_cons_of_mem _ (List.mem_cons_of_mem _ hw))) (hat w hw)
  have hk' : (Cond.classLink own ik cls).before args s' = true := vx_ot_at hW0 hvm.symm (hgood _ List.mem_cons_self) hk
  have hini' : (Cond.initialized cls).before args s' = true := vx_ot_at hW0 hvm.symm (hgood _ (List.mem_cons_of_mem _ List.mem_cons_self)) hini
  have hU' : vx_Zq Bundle.tN "UNASSIGNED_STACK" Bundle.steD A s' s'.heap := by rw [hhp]; exact vx_Zq.moved hW0.alike (hU.kept hS.2.1)
  have hN' : vx_Zq Bundle.tN "SUPPRESSED_SENTINEL" Bundle.listD A s' s'.heap := by rw [hhp]; exact vx_Zq.moved hW0.alike (hN.kept hS.2.1)
  have h : ∀ w ∈ Bundle.ownAtoms own ic cls names, w.before args s' = true := vx_own hat' (vx_isRefq hU'.1) (vx_isRefq hN'.1) hU'.2.word hN'.2.word
  have hown' : s'.vm.findClass own = some m.cls := by rw [hvm]; exact hown
  have hins : (Cond.instantiable cls 6).before args s' = true := h _ (by simp [Bundle.ownAtoms])
  obtain ⟨vm₁, cX, kX, hfX, hkX, -, -, X₁, st1⟩ := Y.newCold hexec (own := own) (C := cls) (index := ik) (n := 6) hown' hk' hins hini'
    (g := F0 m pc ls rest) rfl (by rw [hb]; exact d0) (Nat.le_refl _) (Nat.le_refl _)
  generalize hT1 : (T.setVm vm₁).pushCell { cls := cX, slots := kX.instanceTypes.map defaultValue, vm := .none } = T1 at X₁ st1
  have hcat : (Value.ref T.heap.size).category = 1 := rfl
  have hcellA : T1.heap[T.heap.size]? = some (freshCell cX kX) := by rw [← hT1]; exact State.heap_pushCell_size _ _
  have d3' : decode c.code (pc + 3) = .ok (.dup, 1) := by rw [hb]; exact d3
  have d4' : decode c.code (pc + 4) = .ok (.ldc_w is, 3) := by rw [hb]; exact d4
  have hstr' : vk_R own is text sa s' := vk_R.warm hW0 hstr
  obtain ⟨U, hsteps, hrun, hend, hW, hsame, ce, hce, hO⟩ := X₁.ctorThrowS hexec htr (own := own) (cls := cls) (names := names) (ic := ic) hown' hcls hnames h (fun x hx => nomatch hx) hfX hkX hcellA (by rw [hhp, hT]; exact Nat.le_refl _) (msg := .ref sa) rfl
    (g := { method := m, pc := pc + 7, locals := ls, stack := .ref sa :: .ref T.heap.size :: .ref T.heap.size :: rest, locked := none }) rfl hsize rfl rfl (rest := rest) rfl
    (by rw [hb]; exact d7) (by rw [hb]; exact d10) hout hRframes (by simp only [List.map_cons, List.sum_cons, hcat]; omega) hlocks
  obtain ⟨f1, f2⟩ := vx_frame hsame
  rw [hhp] at f1 f2
  have hWs : s.WarmedH U.vm := State.WarmedH.trans hW0 hW
  have hcl : s.vm.findClass cls = some ce.cls := by
    have h9 := hO.cls
    rw [hvm] at h9
    exact h9
  have hall : s.sameButNew ({ U with vm := s.vm } : State) locs mc ms := by
    subst hA
    obtain ⟨e1, e2⟩ := hsame
    rw [State.setFrames_setFrames] at e1
    have h2 : (T.setVm s.vm).sameButNew ({ U with vm := s.vm } : State) [] (0 + 1) (0 + 6) := ⟨e1, e2⟩
    have h3 := X.same.trans h2
    rw [List.append_nil] at h3
    exact h3.mono hc hs
  refine ⟨U, ?_, .threw T.heap.size, hrun, hend, Or.inr ⟨T.heap.size, rfl, cls, ce, locs, hx U hWs.alike f1 (fun q hq => f2 q hq (fun z hz => nomatch hz)), hce, hO.vm, hcl, hWs, hall, hf⟩⟩
  refine st1 _ ?_
  show Steps p.tables e below (T1.setTop { method := m, pc := pc + 3, locals := ls, stack := .ref T.heap.size :: rest, locked := none }) _
  jvm_step X₁.here [X₁.here.top, hexec, d3', Value.category]
  exact X₁.ldcStringW hexec (own := own) (text := text) (index := is) (a := sa) hown' hstr'.1 hstr'.2
    (g := { method := m, pc := pc + 4, locals := ls, stack := .ref T.heap.size :: .ref T.heap.size :: rest, locked := none }) rfl d4' _ hsteps
end Ends
section Bodies
variable {l : Launch}
theorem vx_ofW {y : MethodName} {ws ws' : List Cond} {rm : Room} {Pc : Array Value → State → Prop} {Qc : Array Value → State → Outcome → State → Prop} {XC : String → State → State → Prop} {mc ms : Nat} {free : Addr → Prop} {cc : ByteArray} {maxL : Nat} {ret : Option FieldType}
    (hy : plainName y.cls = true) (hw : ws = Cond.code y cc maxL ret :: ws')
    (body : ∀ p e s m args below meth c s₁, BodyLoose p l y (headSpec ws rm) cc maxL ret e s m args below meth c s₁ → c.maxLocals = maxL → (∀ x ∈ c.exceptionTable.toList, False) → Pc args s →
      W p l e (headSpec ws rm).room s m args below meth c s.heap [] 0 0 (vx_MQ below Qc XC args s mc ms free) (entryFrame m args maxL)) : vx_Met l y ws rm Pc Qc XC mc ms free := by
  refine MetFree.of_bodyS (code := cc) (maxLocals := maxL) (ret := ret) hy ?_ ?_
  · intro args s m h hn
    obtain ⟨meth, c, h1, h2, h3, h4, h5, h6, -, -⟩ := Cond.code_spec hn (atoms_spec (ws := ws) h _ (by rw [hw]; exact List.mem_cons_self))
    exact ⟨meth, c, h1, h2, h3, h4, h5, h6⟩
  · intro p e s m args below meth c s₁ B hml hP _
    have hh0 : s₁.heap = s.heap := by rw [B.state]; rfl
    have ht : ∀ x ∈ c.exceptionTable.toList, False := by
      obtain ⟨meth9, c9, h1, h2, -, -, -, -, h7, -⟩ := Cond.code_spec B.named (atoms_spec (ws := ws) B.pre _ (by rw [hw]; exact List.mem_cons_self))
      cases Option.some.inj (h1.symm.trans B.method)
      cases Option.some.inj (h2.symm.trans (Stand.of_body B).code)
      intro x hx
      rw [Array.isEmpty_iff.mp h7] at hx
      cases hx
    obtain ⟨t, a1, o, b1, b2, b3⟩ := body p e s m args below meth c s₁ B hml ht hP s₁ hh0 (Stand.of_body B)
    exact ⟨t, o, a1, b1, b2, b3⟩
/-- the table of a body with handlers -/
theorem vx_table {p : Program} {x y : MethodName} {S : Spec} {cc bytes : ByteArray} {maxL maxL' : Nat} {ret ret' : Option FieldType} {e : Env} {s s₁ : State} {m : MethodId} {args : Array Value} {below : List Frame} {meth : Method} {c : Code} {hh : List (Nat × Nat × Nat × Nat)}
    (B : BodyLoose p l y S cc maxL ret e s m args below meth c s₁) (h : (Cond.codeWith y bytes maxL' ret' hh).before args s = true) : c.exceptionTable.toList = tableOf hh := by
  obtain ⟨m9, meth9, c9, hn9, h1, h2, -, -, h6, -⟩ := Cond.codeWith_spec h
  cases Option.some.inj (hn9.symm.trans B.named)
  cases Option.some.inj (h1.symm.trans B.method)
  cases Option.some.inj (h2.symm.trans (Stand.of_body B).code)
  rw [← h6, table_eq]
end Bodies
end VXA
/-! ===== END ===== -/
/-! ===== BEGIN a static call of a method with an exception table ===== -/
section VXS
variable {p : Program} {l : Launch} {e : Env} {R : Room} {s : State} {m : MethodId} {args : Array Value} {below : List Frame} {meth : Method} {c : Code} {T : State} {H : Heap} {locs : List Loc} {cells slots : Nat}
abbrev vx_CSW (R : Room) (s : State) (args : Array Value) (own : String) (index : Nat) (y : MethodName) (bytes : ByteArray) (maxL : Nat) (ret : Option FieldType) (hh : List (Nat × Nat × Nat × Nat)) (ws : List Cond) (rm : Room) (mc ms n : Nat) : Prop :=
  (rm.cells = mc ∧ rm.slots = ms ∧ rm.frames + 1 ≤ R.frames ∧ 8 + (maxL + 11) + rm.locals ≤ R.locals ∧ (∀ w ∈ ws, ∀ (a' : Array Value) (U : State), s.WarmedH U.vm → w.before a' U = true) ∧ Cond.codeWith y bytes maxL ret hh ∈ ws) ∧
  (Cond.codeWith y bytes maxL ret hh).before args s = true ∧ (Cond.initialized y.cls).before args s = true ∧ (y.cls ≠ "java/lang/invoke/MethodHandle" ∧ y.cls ≠ "java/lang/invoke/VarHandle") ∧
  (∀ sig, parseMethodDescriptor y.desc = some sig → n = sig.parameters.length) ∧ (Cond.methodLink own index y).before args s = true ∧ (Cond.static y).before args s = true
theorem vx_cwSW {own : String} {index maxL mc ms : Nat} {y : MethodName} {bytes : ByteArray} {ret : Option FieldType} {hh : List (Nat × Nat × Nat × Nat)} {Ts ws ws' : List Cond} {rm : Room} (n : Nat) (ht : ∀ w ∈ Ts, w.before args s = true) (hT : GoodIn Ts (va_wsS own index y ws)) (hw : ws = Cond.codeWith y bytes maxL ret hh :: ws') (hrc : rm.cells = mc) (hrs : rm.slots = ms)
    (hd : y.cls ≠ "java/lang/invoke/MethodHandle" ∧ y.cls ≠ "java/lang/invoke/VarHandle" ∧ (parseMethodDescriptor y.desc).map (fun d => d.parameters.length) = some n) (hR : rm.frames + 1 ≤ R.frames ∧ 8 + (maxL + 11) + rm.locals ≤ R.locals) :
    vx_CSW R s args own index y bytes maxL ret hh ws rm mc ms n := by
  have ok : ∀ w ∈ va_wsS own index y ws, w.before args s = true := fun w h => ht w (hT w h).1
  have hG : GoodIn Ts ws := fun w h => hT w (by unfold va_wsS; exact List.mem_append_right _ h)
  have hc : Cond.codeWith y bytes maxL ret hh ∈ ws := by rw [hw]; exact List.mem_cons_self
  refine ⟨⟨hrc, hrs, hR.1, hR.2, pay_in ht hG, hc⟩, ht _ (hG _ hc).1, ok _ (by simp [va_wsS]), ⟨hd.1, hd.2.1⟩, fun sig h => ?_, ok _ (by simp [va_wsS]), ok _ (by simp [va_wsS])⟩
  have h2 := hd.2.2
  rw [h] at h2
  exact (Option.some.inj h2).symm
theorem vx_callSW (X : Stand p l e R s m args below meth c T locs cells slots) (hexec : p.tables.exec = Jvm.exec) {own : String} {index : Nat} {y : MethodName} {bytes : ByteArray} {maxL : Nat} {ret : Option FieldType} {hh : List (Nat × Nat × Nat × Nat)}
    (hown : s.vm.findClass own = some m.cls) (hlink : (Cond.methodLink own index y).before args s = true) (hstat : (Cond.static y).before args s = true) (hinit : (Cond.initialized y.cls).before args s = true)
    (hcode : (Cond.codeWith y bytes maxL ret hh).before args s = true) (hy : y.cls ≠ "java/lang/invoke/MethodHandle" ∧ y.cls ≠ "java/lang/invoke/VarHandle")
    {W9 : Nat} {Pre : Pt → Array Value → Prop} {Post : Pt → Array Value → Option Value → Pt → Prop} (hK : Back l R p e below s args y 3 W9 Pre Post)
    {g : JFrame} (hg : g.method = m) (hsize : g.locals.size = c.maxLocals) {argsL rest : List Value} (hlen : ∀ sig, parseMethodDescriptor y.desc = some sig → argsL.length = sig.parameters.length)
    (hstack : g.stack = argsL.reverse ++ rest) (hW : 2 * g.monitorRoom + (rest.map fun v => v.category).sum ≤ W9) (hdg : decode c.code g.pc = .ok (.invokestatic index, 3))
    (hpre : ∀ vm₁, s.WarmedH vm₁ → Pre ⟨T.setVm vm₁, locs, cells, slots⟩ argsL.toArray) :
    ∃ (v : Option Value) (vm₁ : Vm) (B : Pt), s.WarmedH vm₁ ∧ Stand p l e R s m args below meth c B.U B.locs B.cells B.slots ∧ Post ⟨T.setVm vm₁, locs, cells, slots⟩ argsL.toArray v B ∧
      ∀ target, Steps p.tables e below (B.U.setTop { g with pc := g.pc + 3, stack := v.toList ++ rest }) target → Steps p.tables e below (T.setTop g) target := by
  obtain ⟨mk, methM, cM, hnamed, hmethM, -, -, -, -, -, -, hsigM⟩ := Cond.codeWith_spec hcode
  have hstatic : methM.isStatic = true := Cond.static_spec hnamed hmethM hstat
  obtain ⟨kP, hkP, -⟩ := className_of_methodNamed hnamed
  have hinitP : kP.init = .initialized := Cond.initialized_spec (findClass_of_methodNamed hnamed) hkP hinit
  obtain ⟨vm₁, X₁, hstep₁⟩ := X.invokestatic hexec hown hlink hnamed hmethM hstatic hkP hinitP hy (g := g) hg (argsL := argsL) (rest := rest) (hlen _ hsigM) hstack hdg
  obtain ⟨v, B, X', hpost, hsteps⟩ := hK m meth c ⟨T.setVm vm₁, locs, cells, slots⟩ { g with stack := rest } (.invokestatic index) mk argsL.toArray X₁ hg hsize hdg hW (X₁.named hnamed) (hpre vm₁ X₁.warmed)
  exact ⟨v, vm₁, B, X₁.warmed, X', hpost, fun target h => hstep₁ _ fun acts => by rw [doInvoke_state]; exact hsteps.trans h⟩
theorem vx_runSW {y : MethodName} {bytes cc : ByteArray} {maxL nL mc ms n index : Nat} {ret : Option FieldType} {hh : List (Nat × Nat × Nat × Nat)} {ws : List Cond} {rm : Room} {Pc : Array Value → State → Prop} {Qc : Array Value → State → Outcome → State → Prop} {free : Addr → Prop} {Ts : List Cond} {own : String} {As rest : List Value} {g : JFrame}
    (S : CallFix p m c cc nL s args Ts own) (hM : Met l y ws rm Pc Qc mc ms free) (cw : vx_CSW R s args own index y bytes maxL ret hh ws rm mc ms n) (hp : PreS s H Pc As)
    (hg : g.method = m) (hn : As.length = n) (hsize : g.locals.size = nL) (hstack : g.stack = As.reverse ++ rest) (hW : 2 * g.monitorRoom + (rest.map fun v => v.category).sum ≤ 8) (hdg : decode cc g.pc = .ok (.invokestatic index, 3)) (hf : cells + mc ≤ R.cells ∧ slots + ms ≤ R.slots) :
    va_Run p l e R s m args below meth c H locs cells slots mc ms g rest (Qc As.toArray) (free) := by
  obtain ⟨⟨hrc, hrs, hfr, hlo, hws, hcw⟩, hcode, hini, hy, hlen, hl, hstt⟩ := cw
  have hK : Back l R p e below s args y 3 8 (PreOf R mc ms Pc) (PostOf Qc mc ms free) := va_backW (hh := hh) (bytes := bytes) (maxL := maxL) (ret := ret) hM hp.1 hrc hrs hfr hlo hws hcw (fun a' U hW => word_at hW (Or.inl (by first | rfl | simp [Cond.onTables, Cond.keeps, Cond.steady])) hini)
  obtain ⟨hx, hb, hml, ho, -⟩ := S
  intro T hT X
  obtain ⟨v, vm₁, ⟨U', l2, c2, s2⟩, hW₁, X', ⟨g', mk, t, L, e1, e2, hq, h1, hL, h2, h3⟩, st⟩ := vx_callSW X hx (hh := hh) (bytes := bytes) (maxL := maxL) (ret := ret) ho hl hstt hini hcode hy hK hg (hsize.trans hml.symm) (argsL := As) (rest := rest) (fun sig h => hn.trans (hlen sig h)) hstack hW (by rw [hb]; exact hdg)
    (fun vm₁ hW₁ => ⟨hf.1, hf.2, hp.2 (T.setVm vm₁) hT hW₁⟩)
  dsimp only [Pt.U, Pt.locs, Pt.cells, Pt.slots] at X' e1 e2 h1 h2 h3 st
  subst h1; subst h2; subst h3
  exact ⟨v, (T.setVm vm₁).calling g' mk As.toArray, t, U', L, hT, X', hL, e1, e2, hq, st⟩
/-- not caught here, past rows that name other classes: it goes on to the caller -/
theorem vx_outP {p : Program} {l : Launch} {e : Env} {R : Room} {s : State} {m : MethodId} {args : Array Value} {below : List Frame} {meth : Method} {c : Code} {H : Heap} {locs : List Loc} {cells slots : Nat} {free : Addr → Prop} {ls : Array Slot} {rest : List Value} {Qc : Array Value → State → Outcome → State → Prop} {XC : String → State → State → Prop}
    {pc : Nat} {own E : String} {ce : Cell} {q : Addr} {mc ms : Nat} (hown : s.vm.findClass own = some m.cls) (hlocks : meth.locks = false)
    (hpass : ∀ z ∈ c.exceptionTable.toList, covers z pc = false ∨ (z.catchType ≠ 0 ∧ ∃ nm : String, (Cond.classLink own z.catchType nm).before args s = true ∧ va_Nc E nm s)) (hcell : H[q]? = some ce) (hv : ce.vm = .none) (hcl : s.vm.findClass E = some ce.cls)
    (hx : ∀ t : State, t.heap = H → s.vm.Alike t.vm → XC E s t) (hf : ∀ z ∈ locs, free z.base) (hc : cells ≤ mc) (hs : slots ≤ ms) :
    vx_W p l e R s m args below meth c H locs cells slots (vx_MQ below Qc XC args s mc ms free) (F0 m pc ls rest) q := by
  intro T hT X
  have hpl : e.platform.magicAccessors = ({} : Platform).magicAccessors := by rw [X.admits.platform]
  obtain ⟨vm', hW', X', st⟩ := X.outThrough hlocks q (g := F0 m pc ls rest) rfl rfl rfl (cell := ce) (by rw [hT]; exact hcell) (by rw [hv]; rfl)
    (by obtain ⟨k9, h9, -⟩ := Vm.findClass_spec hcl; exact ⟨k9, h9⟩) (fun z hz => by
      rcases hpass z hz with h | ⟨hz0, nm, hl1, hn1⟩
      · exact Or.inl h
      · obtain ⟨c6, hc6, hcl6⟩ := Cond.classLink_spec hown hl1 e.platform hpl
        obtain ⟨a8, b8, h1, h2, h3⟩ := hn1
        cases Option.some.inj (h1.symm.trans hcl)
        cases Option.some.inj (h2.symm.trans hc6)
        exact Or.inr ⟨hz0, _, hcl6, h3⟩)
  obtain ⟨g₀, hfr⟩ := X'.frames_eq
  have hcell9 : ((T.setVm vm').setFrames (.throwing q :: below)).heap[q]? = some ce := by
    show T.heap[q]? = some ce
    rw [hT]; exact hcell
  have hend : Ended ((T.setVm vm').setFrames (.throwing q :: below)) below (.threw q) := State.frames_setFrames _ (State.cur_lt_of_frames hfr)
  refine ⟨(T.setVm vm').setFrames (.throwing q :: below), ?_, .threw q, X'.here.running, hend, Or.inr ⟨q, rfl, E, ce, locs, hx _ hT (X'.ends _).1.alike, hcell9, hv, hcl, (X'.ends _).1, (X'.ends _).2.mono hc hs, hf⟩⟩
  rw [X.pushThrowing_eq]
  exact st
/-- a thing of a world lies in the heap -/
theorem vx_lt {D : va_G} {cl : List vw_C} {ws : va_W} {H1 : Heap} (h : va_P D cl ws H1) {k : Nat} {q : Nat × va_E} (hk : ws[k]? = some q) : q.1 < H1.size := (h k q hk).lt
end VXS
/-! ===== END ===== -/
/-! ===== BEGIN methods with a table of their own: called by a name, returning or throwing ===== -/
section VXH
/-! vx_backW, vx_callVX, vx_callSX, vx_callVW, vx_runVW, vx_runVX, vx_runSX, vx_ofWH follow the same proofs as their sisters above (Free/Laws.lean, Shelf42/LK1.lean); vx_outP calls Shelf42/NT130.lean (outThrough). -/
section
variable {l : Launch} {R : Room} {p : Program} {e : Env} {below : List Frame} {s : State} {sargs : Array Value} {y : MethodName} {len W9 : Nat}
theorem vx_backW {ws : List Cond} {rm : Room} {Pc : Array Value → State → Prop} {Qc : Array Value → State → Outcome → State → Prop} {XC : String → State → State → Prop} {mc ms : Nat} {free : Addr → Prop} {bytes : ByteArray} {maxL : Nat} {ret : Option FieldType} {hh : List (Nat × Nat × Nat × Nat)}
    (hM : vx_Met l y ws rm Pc Qc XC mc ms free) (hblind : FrameBlind Pc) (hrc : rm.cells = mc) (hrs : rm.slots = ms)
    (hframes : rm.frames + 1 ≤ R.frames) (hlocals : W9 + (maxL + 11) + rm.locals ≤ R.locals)
    (hws : ∀ w ∈ ws, ∀ a' U, s.WarmedH U.vm → w.before a' U = true) (hcode : Cond.codeWith y bytes maxL ret hh ∈ ws) (hinit : ∀ a' U, s.WarmedH U.vm → (Cond.initialized y.cls).before a' U = true) :
    vx_Back l R p e below s sargs y len W9 (PreOf R mc ms Pc) (PostOf Qc mc ms free) (vx_Post XC mc ms free) := by
  intro m meth c A g ig mk a X hg hsize hdg hW hn hp
  have h1 : (headSpec ws rm).pre.before a A.U = true := atoms_intro fun w hw => hws w hw _ _ X.warmed
  have h2 : (Cond.codeWith y bytes maxL ret hh).before a A.U = true := hws _ hcode _ _ X.warmed
  have h3 : (Cond.initialized y.cls).before a A.U = true := hinit _ _ X.warmed
  have h4 : A.cells + (headSpec ws rm).room.cells ≤ R.cells := by rw [show (headSpec ws rm).room.cells = mc from hrc]; exact hp.1
  have h5 : A.slots + (headSpec ws rm).room.slots ≤ R.slots := by rw [show (headSpec ws rm).room.slots = ms from hrs]; exact hp.2.1
  have hPc : Pc a (A.U.calling g mk a) := hblind _ _ _ _ hp.2.2
  obtain ⟨U, Ls, c0, s0⟩ := A
  dsimp only [Pt.U, Pt.locs, Pt.cells, Pt.slots] at h1 h2 h3 h4 h5 X hn hPc ⊢
  obtain ⟨m9, methY, cY, hn9, hmY, hcY, -, hlY, -⟩ := Cond.codeWith_spec h2
  cases Option.some.inj (hn9.symm.trans hn)
  obtain ⟨kY, hkY, -⟩ := className_of_methodNamed hn
  have hinitY : kY.init = .initialized := Cond.initialized_spec (findClass_of_methodNamed hn) hkY h3
  have h : At U g.method c below := by rw [hg]; exact X.here
  have hlocals9 : W9 + (maxL + 11) + (headSpec ws rm).room.locals ≤ R.locals := hlocals
  have happ : (headSpec ws rm).appliesLoose y e.platform (U.calling g mk a) = true :=
    Spec.appliesLoose_calling (g := g) h hdg hn hkY hinitY
      (X.room_calling (g := g) (R' := (headSpec ws rm).room) hsize hmY hcY hframes (by rw [hlY]; omega) h4 h5) h1
  obtain ⟨mid, hmid⟩ := h.above
  have hfr : (U.setTop g).frames = (.java g :: mid) ++ below := by rw [State.frames_setTop' g h.top, hmid]; rfl
  obtain ⟨o, s₂, hsteps, -, hend, hq⟩ := Steps.callFree hM p X.admits X.cas X.clock (acts := []) hfr happ hPc trivial
  have hq' : vx_Q Qc XC mc ms free a (U.calling g mk a) o s₂ := hq
  rw [State.frames_setTop' g h.top] at hend
  obtain ⟨g₀, hg0⟩ := Option.isSome_iff_exists.mp h.top
  obtain ⟨r, hr⟩ := State.topJava?_eq_some.mp hg0
  have hr' : (({ U with heap := s₂.heap, slotsUsed := s₂.slotsUsed } : State).setVm s₂.vm).frames = .java g₀ :: r := hr
  rcases hq' with ⟨hqc, L, hfe, hL⟩ | ⟨q, rfl, E, ce, L, hx, hce, hcv, hcl, hW₂, hsm, hL⟩
  · obtain ⟨⟨v, rfl⟩, hW₂, e2, q2, q3, q4, q5, q6⟩ := id hfe
    have e3 : s₂ = ({ (U.calling g mk a).setFrames s₂.frames with heap := s₂.heap, slotsUsed := s₂.slotsUsed } : State).setVm s₂.vm := by
      have : s₂ = ({ s₂ with vm := (U.calling g mk a).vm } : State).setVm s₂.vm := rfl
      rw [e2] at this
      exact this
    obtain ⟨c₂, i₂, len₂, hc₂, hd₂, hf₂⟩ := hend
    have hW' : U.WarmedH s₂.vm := hW₂
    have hcc : c₂ = c := by
      have h1 : s₂.code? g.method = U.code? g.method := by
        rw [State.code?_eq, State.code?_eq, hW'.alike.method?]
      exact Option.some.inj (hc₂.symm.trans (h1.trans h.code))
    subst hcc
    have hlen : len₂ = len := by rw [hdg] at hd₂; cases hd₂; rfl
    subst hlen
    have hs₂ : s₂ = (({ U with heap := s₂.heap, slotsUsed := s₂.slotsUsed } : State).setVm s₂.vm).setTop { g with pc := g.pc + len₂, stack := v.toList ++ g.stack } := by
      refine e3.trans ?_
      rw [hf₂, State.calling_eq h.top, State.setFrames_setFrames, State.setTop_of_frames _ hr', hr]
      rfl
    have hsame : U.sameButNew ({ U with heap := s₂.heap, slotsUsed := s₂.slotsUsed } : State) L mc ms := by
      refine ⟨?_, q2, q3, q4, q5, q6⟩
      obtain ⟨t, ht, -⟩ := State.frames_cons hr
      show ({ U with heap := s₂.heap, slotsUsed := s₂.slotsUsed } : State) = { U.setFrames U.frames with heap := s₂.heap, slotsUsed := s₂.slotsUsed }
      rw [State.setFrames_self ht]
    subst hg
    refine Or.inl ⟨v, ⟨(({ U with heap := s₂.heap, slotsUsed := s₂.slotsUsed } : State).setVm s₂.vm), Ls ++ L, c0 + mc, s0 + ms⟩,
      ⟨X.admits, X.cas, X.clock, X.frames, X.room, X.hears, X.method, X.code, (X.here.setHeapUsed s₂.heap s₂.slotsUsed).setVm hW'.alike, X.tail, State.WarmedH.trans X.warmed hW', X.limits, X.bytes, X.same.trans (hsame.setVm s.vm)⟩,
      ⟨g, mk, s₂, L, rfl, rfl, hqc, rfl, hL, rfl, rfl⟩, ?_⟩
    show Steps p.tables e below _ ((({ U with heap := s₂.heap, slotsUsed := s₂.slotsUsed } : State).setVm s₂.vm).setTop { g with pc := g.pc + len₂, stack := v.toList ++ g.stack })
    rw [← hs₂]
    exact hsteps
  · obtain ⟨e2, q2, q3, q4, q5, q6⟩ := id hsm
    have e3 : s₂ = ({ (U.calling g mk a).setFrames s₂.frames with heap := s₂.heap, slotsUsed := s₂.slotsUsed } : State).setVm s₂.vm := by
      have : s₂ = ({ s₂ with vm := (U.calling g mk a).vm } : State).setVm s₂.vm := rfl
      rw [e2] at this
      exact this
    have hf₂ : s₂.frames = .throwing q :: .java g :: U.frames.tail := hend
    have hW' : U.WarmedH s₂.vm := hW₂
    have hs₂ : s₂ = ((({ U with heap := s₂.heap, slotsUsed := s₂.slotsUsed } : State).setVm s₂.vm).setTop g).pushFrame (.throwing q) := by
      refine e3.trans ?_
      rw [hf₂, State.calling_eq h.top, State.setFrames_setFrames, State.pushFrame, State.frames_setTop _ hr', State.setTop_of_frames _ hr', State.setFrames_setFrames, hr]
      rfl
    have hsame : U.sameButNew ({ U with heap := s₂.heap, slotsUsed := s₂.slotsUsed } : State) L mc ms := by
      refine ⟨?_, q2, q3, q4, q5, q6⟩
      obtain ⟨t, ht, -⟩ := State.frames_cons hr
      show ({ U with heap := s₂.heap, slotsUsed := s₂.slotsUsed } : State) = { U.setFrames U.frames with heap := s₂.heap, slotsUsed := s₂.slotsUsed }
      rw [State.setFrames_self ht]
    subst hg
    refine Or.inr ⟨q, ⟨(({ U with heap := s₂.heap, slotsUsed := s₂.slotsUsed } : State).setVm s₂.vm), Ls ++ L, c0 + mc, s0 + ms⟩,
      ⟨X.admits, X.cas, X.clock, X.frames, X.room, X.hears, X.method, X.code, (X.here.setHeapUsed s₂.heap s₂.slotsUsed).setVm hW'.alike, X.tail, State.WarmedH.trans X.warmed hW', X.limits, X.bytes, X.same.trans (hsame.setVm s.vm)⟩,
      ⟨g, mk, s₂, L, E, ce, rfl, rfl, hx, hce, hcv, hcl, rfl, hL, rfl, rfl⟩, ?_⟩
    show Steps p.tables e below _ (((({ U with heap := s₂.heap, slotsUsed := s₂.slotsUsed } : State).setVm s₂.vm).setTop g).pushFrame (.throwing q))
    rw [← hs₂]
    exact hsteps
end
variable {p : Program} {l : Launch} {e : Env} {R : Room} {s : State} {m : MethodId} {args : Array Value} {below : List Frame} {meth : Method} {c : Code} {T : State} {H : Heap} {locs : List Loc} {cells slots : Nat}
theorem vx_callVX (X : Stand p l e R s m args below meth c T locs cells slots) (hexec : p.tables.exec = Jvm.exec) {own C : String} {index : Nat} {y : MethodName} {bytes : ByteArray} {maxL : Nat} {ret : Option FieldType} {hh : List (Nat × Nat × Nat × Nat)}
    (hown : s.vm.findClass own = some m.cls) (hlink : (Cond.methodLink own index y).before args s = true) (hinst : (Cond.instanceMethod y).before args s = true) (hsel : (Cond.selects C y y).before args s = true)
    (hcode : (Cond.codeWith y bytes maxL ret hh).before args s = true) (hy : y.cls ≠ "java/lang/invoke/MethodHandle" ∧ y.cls ≠ "java/lang/invoke/VarHandle")
    {W9 : Nat} {Pre : Pt → Array Value → Prop} {Post : Pt → Array Value → Option Value → Pt → Prop} {PostX : Pt → Array Value → Addr → Pt → Prop} (hK : vx_Back l R p e below s args y 3 W9 Pre Post PostX)
    {b : Addr} {cellB : Cell} (hcell : T.heap[b]? = some cellB) (hobj : cellB.vm.isStatics = false) (hcls : s.vm.findClass C = some cellB.cls)
    {g : JFrame} (hg : g.method = m) (hsize : g.locals.size = c.maxLocals) {argsL rest : List Value} (hlen : ∀ sig, parseMethodDescriptor y.desc = some sig → argsL.length = sig.parameters.length)
    (hstack : g.stack = argsL.reverse ++ .ref b :: rest) (hW : 2 * g.monitorRoom + (rest.map fun v => v.category).sum ≤ W9) (hdg : decode c.code g.pc = .ok (.invokevirtual index, 3))
    (hpre : ∀ vm₁, s.WarmedH vm₁ → Pre ⟨T.setVm vm₁, locs, cells, slots⟩ (Value.ref b :: argsL).toArray) :
    (∃ (v : Option Value) (vm₁ : Vm) (B : Pt), s.WarmedH vm₁ ∧ Stand p l e R s m args below meth c B.U B.locs B.cells B.slots ∧ Post ⟨T.setVm vm₁, locs, cells, slots⟩ (Value.ref b :: argsL).toArray v B ∧
      ∀ target, Steps p.tables e below (B.U.setTop { g with pc := g.pc + 3, stack := v.toList ++ rest }) target → Steps p.tables e below (T.setTop g) target) ∨
    (∃ (q : Addr) (vm₁ : Vm) (B : Pt), s.WarmedH vm₁ ∧ Stand p l e R s m args below meth c B.U B.locs B.cells B.slots ∧ PostX ⟨T.setVm vm₁, locs, cells, slots⟩ (Value.ref b :: argsL).toArray q B ∧
      Steps p.tables e below (T.setTop g) ((B.U.setTop { g with stack := rest }).pushFrame (.throwing q))) := by
  obtain ⟨mk, methM, hnamed, hmethM, hstM, habM⟩ := Cond.instanceMethod_spec hinst
  obtain ⟨m8, methM', cM, hn8, hmethM', -, -, -, -, -, -, hsigM⟩ := Cond.codeWith_spec hcode
  cases Option.some.inj (hn8.symm.trans hnamed)
  cases hmethM.symm.trans hmethM'
  obtain ⟨c2, r2, m2, q1, q2, q3, q4, kP, hkP, hkPi⟩ := Cond.selects_spec hsel
  cases hcls.symm.trans q1
  cases (State.methodFound?_of_named hnamed hy).symm.trans q2
  cases hnamed.symm.trans q3
  have hselP : selectMethod e.platform s.vm cellB.cls mk = .method mk := by rw [Launch.admits_selectMethod X.admits]; exact q4
  obtain ⟨vm₁, X₁, hstep₁⟩ := X.invokevirtual hexec hown hlink hnamed hmethM hstM hkP hkPi hy (a := b) (cell := cellB) hcell
    (fun z h => by rw [h] at hobj; cases hobj) hselP hmethM habM hkP hkPi (g := g) hg (argsL := argsL) (rest := rest) (hlen _ hsigM) hstack hdg
  rcases hK m meth c ⟨T.setVm vm₁, locs, cells, slots⟩ { g with stack := rest } (.invokevirtual index) mk (Value.ref b :: argsL).toArray X₁ hg hsize hdg hW (X₁.named hnamed) (hpre vm₁ X₁.warmed) with ⟨v, B, X', hpost, hsteps⟩ | ⟨q, B, X', hpost, hsteps⟩
  · exact Or.inl ⟨v, vm₁, B, X₁.warmed, X', hpost, fun target h => hstep₁ _ fun acts => by rw [doInvoke_state]; exact hsteps.trans h⟩
  · exact Or.inr ⟨q, vm₁, B, X₁.warmed, X', hpost, hstep₁ _ fun acts => by rw [doInvoke_state]; exact hsteps⟩
theorem vx_callSX (X : Stand p l e R s m args below meth c T locs cells slots) (hexec : p.tables.exec = Jvm.exec) {own : String} {index : Nat} {y : MethodName} {bytes : ByteArray} {maxL : Nat} {ret : Option FieldType} {hh : List (Nat × Nat × Nat × Nat)}
    (hown : s.vm.findClass own = some m.cls) (hlink : (Cond.methodLink own index y).before args s = true) (hstat : (Cond.static y).before args s = true) (hinit : (Cond.initialized y.cls).before args s = true)
    (hcode : (Cond.codeWith y bytes maxL ret hh).before args s = true) (hy : y.cls ≠ "java/lang/invoke/MethodHandle" ∧ y.cls ≠ "java/lang/invoke/VarHandle")
    {W9 : Nat} {Pre : Pt → Array Value → Prop} {Post : Pt → Array Value → Option Value → Pt → Prop} {PostX : Pt → Array Value → Addr → Pt → Prop} (hK : vx_Back l R p e below s args y 3 W9 Pre Post PostX)
    {g : JFrame} (hg : g.method = m) (hsize : g.locals.size = c.maxLocals) {argsL rest : List Value} (hlen : ∀ sig, parseMethodDescriptor y.desc = some sig → argsL.length = sig.parameters.length)
    (hstack : g.stack = argsL.reverse ++ rest) (hW : 2 * g.monitorRoom + (rest.map fun v => v.category).sum ≤ W9) (hdg : decode c.code g.pc = .ok (.invokestatic index, 3))
    (hpre : ∀ vm₁, s.WarmedH vm₁ → Pre ⟨T.setVm vm₁, locs, cells, slots⟩ argsL.toArray) :
    (∃ (v : Option Value) (vm₁ : Vm) (B : Pt), s.WarmedH vm₁ ∧ Stand p l e R s m args below meth c B.U B.locs B.cells B.slots ∧ Post ⟨T.setVm vm₁, locs, cells, slots⟩ argsL.toArray v B ∧
      ∀ target, Steps p.tables e below (B.U.setTop { g with pc := g.pc + 3, stack := v.toList ++ rest }) target → Steps p.tables e below (T.setTop g) target) ∨
    (∃ (q : Addr) (vm₁ : Vm) (B : Pt), s.WarmedH vm₁ ∧ Stand p l e R s m args below meth c B.U B.locs B.cells B.slots ∧ PostX ⟨T.setVm vm₁, locs, cells, slots⟩ argsL.toArray q B ∧
      Steps p.tables e below (T.setTop g) ((B.U.setTop { g with stack := rest }).pushFrame (.throwing q))) := by
  obtain ⟨mk, methM, cM, hnamed, hmethM, -, -, -, -, -, -, hsigM⟩ := Cond.codeWith_spec hcode
  have hstatic : methM.isStatic = true := Cond.static_spec hnamed hmethM hstat
  obtain ⟨kP, hkP, -⟩ := className_of_methodNamed hnamed
  have hinitP : kP.init = .initialized := Cond.initialized_spec (findClass_of_methodNamed hnamed) hkP hinit
  obtain ⟨vm₁, X₁, hstep₁⟩ := X.invokestatic hexec hown hlink hnamed hmethM hstatic hkP hinitP hy (g := g) hg (argsL := argsL) (rest := rest) (hlen _ hsigM) hstack hdg
  rcases hK m meth c ⟨T.setVm vm₁, locs, cells, slots⟩ { g with stack := rest } (.invokestatic index) mk argsL.toArray X₁ hg hsize hdg hW (X₁.named hnamed) (hpre vm₁ X₁.warmed) with ⟨v, B, X', hpost, hsteps⟩ | ⟨q, B, X', hpost, hsteps⟩
  · exact Or.inl ⟨v, vm₁, B, X₁.warmed, X', hpost, fun target h => hstep₁ _ fun acts => by rw [doInvoke_state]; exact hsteps.trans h⟩
  · exact Or.inr ⟨q, vm₁, B, X₁.warmed, X', hpost, hstep₁ _ fun acts => by rw [doInvoke_state]; exact hsteps⟩
theorem vx_callVW (X : Stand p l e R s m args below meth c T locs cells slots) (hexec : p.tables.exec = Jvm.exec) {own C : String} {index : Nat} {y : MethodName} {bytes : ByteArray} {maxL : Nat} {ret : Option FieldType} {hh : List (Nat × Nat × Nat × Nat)}
    (hown : s.vm.findClass own = some m.cls) (hlink : (Cond.methodLink own index y).before args s = true) (hinst : (Cond.instanceMethod y).before args s = true) (hsel : (Cond.selects C y y).before args s = true)
    (hcode : (Cond.codeWith y bytes maxL ret hh).before args s = true) (hy : y.cls ≠ "java/lang/invoke/MethodHandle" ∧ y.cls ≠ "java/lang/invoke/VarHandle")
    {W9 : Nat} {Pre : Pt → Array Value → Prop} {Post : Pt → Array Value → Option Value → Pt → Prop} (hK : Back l R p e below s args y 3 W9 Pre Post)
    {b : Addr} {cellB : Cell} (hcell : T.heap[b]? = some cellB) (hobj : cellB.vm.isStatics = false) (hcls : s.vm.findClass C = some cellB.cls)
    {g : JFrame} (hg : g.method = m) (hsize : g.locals.size = c.maxLocals) {argsL rest : List Value} (hlen : ∀ sig, parseMethodDescriptor y.desc = some sig → argsL.length = sig.parameters.length)
    (hstack : g.stack = argsL.reverse ++ .ref b :: rest) (hW : 2 * g.monitorRoom + (rest.map fun v => v.category).sum ≤ W9) (hdg : decode c.code g.pc = .ok (.invokevirtual index, 3))
    (hpre : ∀ vm₁, s.WarmedH vm₁ → Pre ⟨T.setVm vm₁, locs, cells, slots⟩ (Value.ref b :: argsL).toArray) :
    ∃ (v : Option Value) (vm₁ : Vm) (B : Pt), s.WarmedH vm₁ ∧ Stand p l e R s m args below meth c B.U B.locs B.cells B.slots ∧ Post ⟨T.setVm vm₁, locs, cells, slots⟩ (Value.ref b :: argsL).toArray v B ∧
      ∀ target, Steps p.tables e below (B.U.setTop { g with pc := g.pc + 3, stack := v.toList ++ rest }) target → Steps p.tables e below (T.setTop g) target := by
  obtain ⟨mk, methM, hnamed, hmethM, hstM, habM⟩ := Cond.instanceMethod_spec hinst
  obtain ⟨m8, methM', cM, hn8, hmethM', -, -, -, -, -, -, hsigM⟩ := Cond.codeWith_spec hcode
  cases Option.some.inj (hn8.symm.trans hnamed)
  cases hmethM.symm.trans hmethM'
  obtain ⟨c2, r2, m2, q1, q2, q3, q4, kP, hkP, hkPi⟩ := Cond.selects_spec hsel
  cases hcls.symm.trans q1
  cases (State.methodFound?_of_named hnamed hy).symm.trans q2
  cases hnamed.symm.trans q3
  have hselP : selectMethod e.platform s.vm cellB.cls mk = .method mk := by rw [Launch.admits_selectMethod X.admits]; exact q4
  obtain ⟨vm₁, X₁, hstep₁⟩ := X.invokevirtual hexec hown hlink hnamed hmethM hstM hkP hkPi hy (a := b) (cell := cellB) hcell
    (fun z h => by rw [h] at hobj; cases hobj) hselP hmethM habM hkP hkPi (g := g) hg (argsL := argsL) (rest := rest) (hlen _ hsigM) hstack hdg
  obtain ⟨v, B, X', hpost, hsteps⟩ := hK m meth c ⟨T.setVm vm₁, locs, cells, slots⟩ { g with stack := rest } (.invokevirtual index) mk (Value.ref b :: argsL).toArray X₁ hg hsize hdg hW (X₁.named hnamed) (hpre vm₁ X₁.warmed)
  exact ⟨v, vm₁, B, X₁.warmed, X', hpost, fun target h => hstep₁ _ fun acts => by rw [doInvoke_state]; exact hsteps.trans h⟩
abbrev vx_CVW (R : Room) (s : State) (args : Array Value) (own C : String) (index : Nat) (y : MethodName) (bytes : ByteArray) (maxL : Nat) (ret : Option FieldType) (hh : List (Nat × Nat × Nat × Nat)) (ws : List Cond) (rm : Room) (mc ms n : Nat) : Prop :=
  (rm.cells = mc ∧ rm.slots = ms ∧ rm.frames + 1 ≤ R.frames ∧ 8 + (maxL + 11) + rm.locals ≤ R.locals ∧ (∀ w ∈ ws, ∀ (a' : Array Value) (U : State), s.WarmedH U.vm → w.before a' U = true) ∧ Cond.codeWith y bytes maxL ret hh ∈ ws) ∧
  (Cond.codeWith y bytes maxL ret hh).before args s = true ∧ (Cond.initialized y.cls).before args s = true ∧ (y.cls ≠ "java/lang/invoke/MethodHandle" ∧ y.cls ≠ "java/lang/invoke/VarHandle") ∧
  (∀ sig, parseMethodDescriptor y.desc = some sig → n = sig.parameters.length) ∧ (Cond.methodLink own index y).before args s = true ∧ (Cond.instanceMethod y).before args s = true ∧ (Cond.selects C y y).before args s = true
theorem vx_cwVW {own C : String} {index maxL mc ms : Nat} {y : MethodName} {bytes : ByteArray} {ret : Option FieldType} {hh : List (Nat × Nat × Nat × Nat)} {Ts ws ws' : List Cond} {rm : Room} (n : Nat) (ht : ∀ w ∈ Ts, w.before args s = true) (hT : GoodIn Ts (wsV own index C y ws)) (hw : ws = Cond.codeWith y bytes maxL ret hh :: ws') (hrc : rm.cells = mc) (hrs : rm.slots = ms)
    (hd : y.cls = C ∧ y.cls ≠ "java/lang/invoke/MethodHandle" ∧ y.cls ≠ "java/lang/invoke/VarHandle" ∧ (parseMethodDescriptor y.desc).map (fun d => d.parameters.length) = some n) (hR : rm.frames + 1 ≤ R.frames ∧ 8 + (maxL + 11) + rm.locals ≤ R.locals) :
    vx_CVW R s args own C index y bytes maxL ret hh ws rm mc ms n := by
  obtain ⟨hC, hd⟩ := hd
  subst hC
  have ok : ∀ w ∈ wsV own index y.cls y ws, w.before args s = true := fun w h => ht w (hT w h).1
  have hG : GoodIn Ts ws := fun w h => hT w (by unfold wsV; exact List.mem_append_right _ h)
  have hc : Cond.codeWith y bytes maxL ret hh ∈ ws := by rw [hw]; exact List.mem_cons_self
  refine ⟨⟨hrc, hrs, hR.1, hR.2, pay_in ht hG, hc⟩, ht _ (hG _ hc).1, ok _ (by simp [wsV]), ⟨hd.1, hd.2.1⟩, fun sig h => ?_, ok _ (by simp [wsV]), ok _ (by simp [wsV]), ok _ (by simp [wsV])⟩
  have h2 := hd.2.2
  rw [h] at h2
  exact (Option.some.inj h2).symm
theorem vx_runVW {y : MethodName} {bytes cc : ByteArray} {maxL nL mc ms n index : Nat} {ret : Option FieldType} {hh : List (Nat × Nat × Nat × Nat)} {ws : List Cond} {rm : Room} {Pc : Array Value → State → Prop} {Qc : Array Value → State → Outcome → State → Prop} {free : Addr → Prop} {Ts : List Cond} {own C : String} {b : Addr} {As rest : List Value} {g : JFrame}
    (S : CallFix p m c cc nL s args Ts own) (hM : Met l y ws rm Pc Qc mc ms free) (cw : vx_CVW R s args own C index y bytes maxL ret hh ws rm mc ms n) (hp : PreV s H C b Pc As)
    (hg : g.method = m) (hn : As.length = n) (hsize : g.locals.size = nL) (hstack : g.stack = As.reverse ++ .ref b :: rest) (hW : 2 * g.monitorRoom + (rest.map fun v => v.category).sum ≤ 8) (hdg : decode cc g.pc = .ok (.invokevirtual index, 3)) (hf : cells + mc ≤ R.cells ∧ slots + ms ≤ R.slots) :
    va_Run p l e R s m args below meth c H locs cells slots mc ms g rest (Qc (Value.ref b :: As).toArray) free := by
  obtain ⟨⟨hrc, hrs, hfr, hlo, hws, hcw⟩, hcode, hini, hy, hlen, hl, hin, hse⟩ := cw
  have hK : Back l R p e below s args y 3 8 (PreOf R mc ms Pc) (PostOf Qc mc ms free) := va_backW (hh := hh) (bytes := bytes) (maxL := maxL) (ret := ret) hM hp.1 hrc hrs hfr hlo hws hcw (fun a' U hW => word_at hW (Or.inl (by first | rfl | simp [Cond.onTables, Cond.keeps, Cond.steady])) hini)
  obtain ⟨hx, hb, hml, ho, -⟩ := S
  obtain ⟨-, ⟨cellB, hcB, hoB, hclB⟩, hPc⟩ := hp
  intro T hT X
  obtain ⟨v, vm₁, ⟨U', l2, c2, s2⟩, hW₁, X', ⟨g', mk, t, L, e1, e2, hq, h1, hL, h2, h3⟩, st⟩ := vx_callVW X hx (C := C) (hh := hh) (bytes := bytes) (maxL := maxL) (ret := ret) ho hl hin hse hcode hy hK (by rw [hT]; exact hcB) hoB hclB hg (hsize.trans hml.symm) (argsL := As) (rest := rest) (fun sig h => hn.trans (hlen sig h)) hstack hW (by rw [hb]; exact hdg)
    (fun vm₁ hW₁ => ⟨hf.1, hf.2, hPc (T.setVm vm₁) hT hW₁⟩)
  dsimp only [Pt.U, Pt.locs, Pt.cells, Pt.slots] at X' e1 e2 h1 h2 h3 st
  subst h1; subst h2; subst h3
  exact ⟨v, (T.setVm vm₁).calling g' mk (Value.ref b :: As).toArray, t, U', L, hT, X', hL, e1, e2, hq, st⟩
section
variable {y : MethodName} {bytes cc : ByteArray} {maxL nL mc ms n index : Nat} {ret : Option FieldType} {ws : List Cond} {rm : Room} {Pc : Array Value → State → Prop} {Qc : Array Value → State → Outcome → State → Prop} {XC : String → State → State → Prop} {free : Addr → Prop} {Ts : List Cond} {own C : String} {b : Addr} {As rest : List Value} {g : JFrame}
theorem vx_runVX {hh : List (Nat × Nat × Nat × Nat)} (S : CallFix p m c cc nL s args Ts own) (hM : vx_Met l y ws rm Pc Qc XC mc ms free) (cw : vx_CVW R s args own C index y bytes maxL ret hh ws rm mc ms n) (hp : PreV s H C b Pc As)
    (hg : g.method = m) (hn : As.length = n) (hsize : g.locals.size = nL) (hstack : g.stack = As.reverse ++ .ref b :: rest) (hW : 2 * g.monitorRoom + (rest.map fun v => v.category).sum ≤ 8) (hdg : decode cc g.pc = .ok (.invokevirtual index, 3)) (hf : cells + mc ≤ R.cells ∧ slots + ms ≤ R.slots) :
    vx_Run p l e R s m args below meth c H locs cells slots mc ms g rest (Qc (Value.ref b :: As).toArray) XC free := by
  obtain ⟨⟨hrc, hrs, hfr, hlo, hws, hcw⟩, hcode, hini, hy, hlen, hl, hin, hse⟩ := cw
  have hK : vx_Back l R p e below s args y 3 8 (PreOf R mc ms Pc) (PostOf Qc mc ms free) (vx_Post XC mc ms free) := vx_backW (hh := hh) (bytes := bytes) (maxL := maxL) (ret := ret) hM hp.1 hrc hrs hfr hlo hws hcw (fun a' U hW => word_at hW (Or.inl (by first | rfl | simp [Cond.onTables, Cond.keeps, Cond.steady])) hini)
  obtain ⟨hx, hb, hml, ho, -⟩ := S
  obtain ⟨-, ⟨cellB, hcB, hoB, hclB⟩, hPc⟩ := hp
  intro T hT X
  rcases vx_callVX X hx (C := C) (hh := hh) (bytes := bytes) (maxL := maxL) (ret := ret) ho hl hin hse hcode hy hK (by rw [hT]; exact hcB) hoB hclB hg (hsize.trans hml.symm) (argsL := As) (rest := rest) (fun sig h => hn.trans (hlen sig h)) hstack hW (by rw [hb]; exact hdg)
    (fun vm₁ hW₁ => ⟨hf.1, hf.2, hPc (T.setVm vm₁) hT hW₁⟩) with ⟨v, vm₁, ⟨U', l2, c2, s2⟩, hW₁, X', ⟨g', mk, t, L, e1, e2, hq, h1, hL, h2, h3⟩, st⟩ | ⟨q, vm₁, ⟨U', l2, c2, s2⟩, hW₁, X', ⟨g', mk, t, L, E, ce, e1, e2, hq, hce, hcv, hcl, h1, hL, h2, h3⟩, st⟩
  · dsimp only [Pt.U, Pt.locs, Pt.cells, Pt.slots] at X' e1 e2 h1 h2 h3 st
    subst h1; subst h2; subst h3
    exact Or.inl ⟨v, (T.setVm vm₁).calling g' mk (Value.ref b :: As).toArray, t, U', L, hT, X', hL, e1, e2, hq, st⟩
  · dsimp only [Pt.U, Pt.locs, Pt.cells, Pt.slots] at X' e1 e2 h1 h2 h3 st hcl
    subst h1; subst h2; subst h3
    exact Or.inr ⟨q, (T.setVm vm₁).calling g' mk (Value.ref b :: As).toArray, t, U', L, E, ce, hT, X', hL, e1, e2, hq, hce, hcv, vx_cls hW₁ hcl, st⟩
theorem vx_runSX {hh : List (Nat × Nat × Nat × Nat)} (S : CallFix p m c cc nL s args Ts own) (hM : vx_Met l y ws rm Pc Qc XC mc ms free) (cw : vx_CSW R s args own index y bytes maxL ret hh ws rm mc ms n) (hp : PreS s H Pc As)
    (hg : g.method = m) (hn : As.length = n) (hsize : g.locals.size = nL) (hstack : g.stack = As.reverse ++ rest) (hW : 2 * g.monitorRoom + (rest.map fun v => v.category).sum ≤ 8) (hdg : decode cc g.pc = .ok (.invokestatic index, 3)) (hf : cells + mc ≤ R.cells ∧ slots + ms ≤ R.slots) :
    vx_Run p l e R s m args below meth c H locs cells slots mc ms g rest (Qc As.toArray) XC free := by
  obtain ⟨⟨hrc, hrs, hfr, hlo, hws, hcw⟩, hcode, hini, hy, hlen, hl, hstt⟩ := cw
  have hK : vx_Back l R p e below s args y 3 8 (PreOf R mc ms Pc) (PostOf Qc mc ms free) (vx_Post XC mc ms free) := vx_backW (hh := hh) (bytes := bytes) (maxL := maxL) (ret := ret) hM hp.1 hrc hrs hfr hlo hws hcw (fun a' U hW => word_at hW (Or.inl (by first | rfl | simp [Cond.onTables, Cond.keeps, Cond.steady])) hini)
  obtain ⟨hx, hb, hml, ho, -⟩ := S
  intro T hT X
  rcases vx_callSX X hx (hh := hh) (bytes := bytes) (maxL := maxL) (ret := ret) ho hl hstt hini hcode hy hK hg (hsize.trans hml.symm) (argsL := As) (rest := rest) (fun sig h => hn.trans (hlen sig h)) hstack hW (by rw [hb]; exact hdg)
    (fun vm₁ hW₁ => ⟨hf.1, hf.2, hp.2 (T.setVm vm₁) hT hW₁⟩) with ⟨v, vm₁, ⟨U', l2, c2, s2⟩, hW₁, X', ⟨g', mk, t, L, e1, e2, hq, h1, hL, h2, h3⟩, st⟩ | ⟨q, vm₁, ⟨U', l2, c2, s2⟩, hW₁, X', ⟨g', mk, t, L, E, ce, e1, e2, hq, hce, hcv, hcl, h1, hL, h2, h3⟩, st⟩
  · dsimp only [Pt.U, Pt.locs, Pt.cells, Pt.slots] at X' e1 e2 h1 h2 h3 st
    subst h1; subst h2; subst h3
    exact Or.inl ⟨v, (T.setVm vm₁).calling g' mk As.toArray, t, U', L, hT, X', hL, e1, e2, hq, st⟩
  · dsimp only [Pt.U, Pt.locs, Pt.cells, Pt.slots] at X' e1 e2 h1 h2 h3 st hcl
    subst h1; subst h2; subst h3
    exact Or.inr ⟨q, (T.setVm vm₁).calling g' mk As.toArray, t, U', L, E, ce, hT, X', hL, e1, e2, hq, hce, hcv, vx_cls hW₁ hcl, st⟩
end
end VXH
theorem vx_ofWH {l : Launch} {y : MethodName} {ws ws' : List Cond} {rm : Room} {Pc : Array Value → State → Prop} {Qc : Array Value → State → Outcome → State → Prop} {XC : String → State → State → Prop} {mc ms : Nat} {free : Addr → Prop} {cc : ByteArray} {maxL : Nat} {ret : Option FieldType} {hh : List (Nat × Nat × Nat × Nat)}
    (hy : plainName y.cls = true) (hw : ws = Cond.codeWith y cc maxL ret hh :: ws')
    (body : ∀ p e s m args below meth c s₁, BodyLoose p l y (headSpec ws rm) cc maxL ret e s m args below meth c s₁ → c.maxLocals = maxL → Pc args s →
      W p l e (headSpec ws rm).room s m args below meth c s.heap [] 0 0 (vx_MQ below Qc XC args s mc ms free) (entryFrame m args maxL)) : vx_Met l y ws rm Pc Qc XC mc ms free := by
  refine MetFree.of_bodyS (code := cc) (maxLocals := maxL) (ret := ret) hy ?_ ?_
  · intro args s m h hn
    obtain ⟨m9, meth, c, hn9, h1, h2, h3, h4, -, h5, h6, -⟩ := Cond.codeWith_spec (atoms_spec (ws := ws) h _ (by rw [hw]; exact List.mem_cons_self))
    cases hn.symm.trans hn9
    exact ⟨meth, c, h1, h2, h3, h4, h5, h6⟩
  · intro p e s m args below meth c s₁ B hml hP _
    have hh0 : s₁.heap = s.heap := by rw [B.state]; rfl
    obtain ⟨t, a1, o, b1, b2, b3⟩ := body p e s m args below meth c s₁ B hml hP s₁ hh0 (Stand.of_body B)
    exact ⟨t, o, a1, b1, b2, b3⟩
/-! ===== END ===== -/
end
section
/-! ===== the tables' words: the good ones, and links across a nest ===== -/
def lw_good : List Cond := lw_tbl.filter goodWord
def evk : Cond → Bool
  | .fieldLinkNest .. | .methodLinkNest .. | .castable .. | .declares .. => true
  | _ => false
def okw (w : Cond) : Bool := goodWord w || evk w
theorem evk_on {w : Cond} (h : evk w = true) : w.onTables = true := by
  cases w <;> first | rfl | (exact absurd h (by decide)) | (simp [evk] at h)
theorem evk_warm {w : Cond} (h : evk w = true) {s U : State} (hW : s.WarmedH U.vm) (hZ : va_Nw w s) : va_Nw w U := by
  cases w <;> first | exact va_Nw.warmF hW hZ | exact va_Nw.warmM hW hZ | exact va_Nw.warmC hW hZ | exact va_Nw.warmD hW hZ | (simp [evk] at h)
theorem okw_warm {w : Cond} (h : okw w = true) {s U : State} (hW : s.WarmedH U.vm) (hZ : w.before #[] s = true) : w.before #[] U = true := by
  simp only [okw, Bool.or_eq_true] at h
  rcases h with h | h
  · exact word_at hW (good_of_word h) hZ
  · exact evk_warm h hW hZ
theorem okw_any {w : Cond} (h : okw w = true) {U : State} {args : Array Value} (hZ : w.before #[] U = true) : w.before args U = true := by
  simp only [okw, Bool.or_eq_true] at h
  rcases h with h | h
  · exact word_at (State.WarmedH.refl U) (good_of_word h) hZ
  · exact va_Nw.use (evk_on h) hZ
theorem gm {l : List Cond} (h : ∀ w ∈ l, w ∈ lw_tbl ∧ goodWord w = true) : GoodIn lw_good l := fun w hw => ⟨List.mem_filter.mpr (h w hw), good_of_word (h w hw).2⟩
abbrev RX0 : String := "DrawShares"
def TX0 : u_T := fun k => match k with
  | 0 => ("DrawShares", "shares", "LDrawShares$Shares;", true)
  | 1 => ("DrawShares", "acts", "LDrawShares$Acts;", true)
  | 2 => ("DrawShares", "told", "LDrawShares$Told;", true)
  | 3 => ("DrawShares", "stopAhead", "I", false)
  | 4 => ("DrawShares", "goodRuns", "I", false)
  | _ => ("DrawShares", "refusedRuns", "I", false)
def tyX0 : Nat → FieldType := fun k => match k with
  | 0 => .object "DrawShares$Shares"
  | 1 => .object "DrawShares$Acts"
  | 2 => .object "DrawShares$Told"
  | 3 => .int
  | 4 => .int
  | _ => .int
theorem nmX0 : ∀ a, a < 6 → ∀ b, b < 6 → a ≠ b → (TX0 a).2.1 ≠ (TX0 b).2.1 := by decide +kernel
theorem tyX0_ok : ∀ k, k < 6 → parseFieldDescriptor (TX0 k).2.2.1 = some (tyX0 k) := by decide +kernel
theorem inX0_t : ∀ w ∈ u_ws RX0 TX0 6, w ∈ lw_tbl := by decide +kernel
theorem inX0_g : ∀ w ∈ u_ws RX0 TX0 6, goodWord w = true := by decide +kernel
theorem inX0 : ∀ w ∈ u_ws RX0 TX0 6, w ∈ lw_good := fun w h => List.mem_filter.mpr ⟨inX0_t w h, inX0_g w h⟩
abbrev RX1 : String := "DrawShares$Shares"
def TX1 : u_T := fun k => match k with
  | 0 => ("DrawShares$Shares", "size", "I", true)
  | 1 => ("DrawShares$Shares", "work", "[I", true)
  | 2 => ("DrawShares$Shares", "seed", "[I", true)
  | 3 => ("DrawShares$Shares", "bits", "[I", true)
  | 4 => ("DrawShares$Shares", "lossStep", "[I", true)
  | _ => ("DrawShares$Shares", "losses", "[I", true)
def tyX1 : Nat → FieldType := fun k => match k with
  | 0 => .int
  | 1 => .array .int
  | 2 => .array .int
  | 3 => .array .int
  | 4 => .array .int
  | _ => .array .int
theorem nmX1 : ∀ a, a < 6 → ∀ b, b < 6 → a ≠ b → (TX1 a).2.1 ≠ (TX1 b).2.1 := by decide +kernel
theorem tyX1_ok : ∀ k, k < 6 → parseFieldDescriptor (TX1 k).2.2.1 = some (tyX1 k) := by decide +kernel
theorem inX1_t : ∀ w ∈ u_ws RX1 TX1 6, w ∈ lw_tbl := by decide +kernel
theorem inX1_g : ∀ w ∈ u_ws RX1 TX1 6, goodWord w = true := by decide +kernel
theorem inX1 : ∀ w ∈ u_ws RX1 TX1 6, w ∈ lw_good := fun w h => List.mem_filter.mpr ⟨inX1_t w h, inX1_g w h⟩
abbrev RX2 : String := "DrawShares$Acts"
def TX2 : u_T := fun k => match k with
  | 0 => ("DrawShares$Acts", "rank", "[I", true)
  | 1 => ("DrawShares$Acts", "addend", "[I", true)
  | _ => ("DrawShares$Acts", "size", "I", false)
def tyX2 : Nat → FieldType := fun k => match k with
  | 0 => .array .int
  | 1 => .array .int
  | _ => .int
theorem nmX2 : ∀ a, a < 3 → ∀ b, b < 3 → a ≠ b → (TX2 a).2.1 ≠ (TX2 b).2.1 := by decide +kernel
theorem tyX2_ok : ∀ k, k < 3 → parseFieldDescriptor (TX2 k).2.2.1 = some (tyX2 k) := by decide +kernel
theorem inX2_t : ∀ w ∈ u_ws RX2 TX2 3, w ∈ lw_tbl := by decide +kernel
theorem inX2_g : ∀ w ∈ u_ws RX2 TX2 3, goodWord w = true := by decide +kernel
theorem inX2 : ∀ w ∈ u_ws RX2 TX2 3, w ∈ lw_good := fun w h => List.mem_filter.mpr ⟨inX2_t w h, inX2_g w h⟩
abbrev RX3 : String := "DrawShares$Told"
def TX3 : u_T := fun k => match k with
  | 0 => ("DrawShares$Told", "values", "[I", true)
  | 1 => ("DrawShares$Told", "begins", "[I", true)
  | 2 => ("DrawShares$Told", "actsCame", "[I", true)
  | 3 => ("DrawShares$Told", "ready", "Z", false)
  | 4 => ("DrawShares$Told", "sum", "J", false)
  | 5 => ("DrawShares$Told", "joinedShares", "I", false)
  | 6 => ("DrawShares$Told", "stepsDone", "I", false)
  | _ => ("DrawShares$Told", "workersLeft", "I", false)
def tyX3 : Nat → FieldType := fun k => match k with
  | 0 => .array .int
  | 1 => .array .int
  | 2 => .array .int
  | 3 => .boolean
  | 4 => .long
  | 5 => .int
  | 6 => .int
  | _ => .int
theorem nmX3 : ∀ a, a < 8 → ∀ b, b < 8 → a ≠ b → (TX3 a).2.1 ≠ (TX3 b).2.1 := by decide +kernel
theorem tyX3_ok : ∀ k, k < 8 → parseFieldDescriptor (TX3 k).2.2.1 = some (tyX3 k) := by decide +kernel
theorem inX3_t : ∀ w ∈ u_ws RX3 TX3 8, w ∈ lw_tbl := by decide +kernel
theorem inX3_g : ∀ w ∈ u_ws RX3 TX3 8, goodWord w = true := by decide +kernel
theorem inX3 : ∀ w ∈ u_ws RX3 TX3 8, w ∈ lw_good := fun w h => List.mem_filter.mpr ⟨inX3_t w h, inX3_g w h⟩
abbrev RM0 : String := "DrawSharesModel"
def TM0 : u_T := fun k => match k with
  | 0 => ("DrawSharesModel", "thrown", "I", false)
  | 1 => ("DrawSharesModel", "shares", "I", true)
  | 2 => ("DrawSharesModel", "work", "[I", true)
  | 3 => ("DrawSharesModel", "seed", "[I", true)
  | 4 => ("DrawSharesModel", "bits", "[I", true)
  | 5 => ("DrawSharesModel", "failStep", "[I", true)
  | 6 => ("DrawSharesModel", "failTimes", "[I", true)
  | 7 => ("DrawSharesModel", "acts", "I", false)
  | 8 => ("DrawSharesModel", "rank", "[I", true)
  | 9 => ("DrawSharesModel", "actValue", "[I", true)
  | 10 => ("DrawSharesModel", "stop", "I", false)
  | 11 => ("DrawSharesModel", "runs", "I", false)
  | 12 => ("DrawSharesModel", "refused", "I", false)
  | 13 => ("DrawSharesModel", "sum", "J", false)
  | 14 => ("DrawSharesModel", "many", "I", false)
  | 15 => ("DrawSharesModel", "steps", "I", false)
  | 16 => ("DrawSharesModel", "left", "I", false)
  | 17 => ("DrawSharesModel", "value", "[I", true)
  | 18 => ("DrawSharesModel", "begun", "[I", true)
  | _ => ("DrawSharesModel", "came", "[I", true)
def tyM0 : Nat → FieldType := fun k => match k with
  | 0 => .int
  | 1 => .int
  | 2 => .array .int
  | 3 => .array .int
  | 4 => .array .int
  | 5 => .array .int
  | 6 => .array .int
  | 7 => .int
  | 8 => .array .int
  | 9 => .array .int
  | 10 => .int
  | 11 => .int
  | 12 => .int
  | 13 => .long
  | 14 => .int
  | 15 => .int
  | 16 => .int
  | 17 => .array .int
  | 18 => .array .int
  | _ => .array .int
theorem nmM0 : ∀ a, a < 20 → ∀ b, b < 20 → a ≠ b → (TM0 a).2.1 ≠ (TM0 b).2.1 := by decide +kernel
theorem tyM0_ok : ∀ k, k < 20 → parseFieldDescriptor (TM0 k).2.2.1 = some (tyM0 k) := by decide +kernel
theorem inM0_t : ∀ w ∈ u_ws RM0 TM0 20, w ∈ lw_tbl := by decide +kernel
theorem inM0_g : ∀ w ∈ u_ws RM0 TM0 20, goodWord w = true := by decide +kernel
theorem inM0 : ∀ w ∈ u_ws RM0 TM0 20, w ∈ lw_good := fun w h => List.mem_filter.mpr ⟨inM0_t w h, inM0_g w h⟩
abbrev RL : String := "DrawSharesLaw"
abbrev RJ0 : String := "java/util/Arrays"
abbrev vwCl : List vw_C := [(RX0, TX0, 6), (RX1, TX1, 6), (RX2, TX2, 3), (RX3, TX3, 8), (RM0, TM0, 20)]
abbrev cX0_init : ByteArray := prog_1_method_1_code
abbrev yX0_init : MethodName := ⟨RX0, "<init>", "(I)V"⟩
abbrev wsX0_init : List Cond := [.code yX0_init cX0_init 3 none]
abbrev cX0_share : ByteArray := prog_1_method_2_code
abbrev yX0_share : MethodName := ⟨RX0, "share", "(IIII)I"⟩
abbrev wsX0_share : List Cond := [.code yX0_share cX0_share 6 (some .int)]
abbrev cX0_fails : ByteArray := prog_1_method_3_code
abbrev yX0_fails : MethodName := ⟨RX0, "fails", "(III)I"⟩
abbrev wsX0_fails : List Cond := [.code yX0_fails cX0_fails 5 (some .int)]
abbrev cX0_act : ByteArray := prog_1_method_4_code
abbrev yX0_act : MethodName := ⟨RX0, "act", "(II)I"⟩
abbrev wsX0_act : List Cond := [.code yX0_act cX0_act 3 (some .int)]
abbrev cX0_stop : ByteArray := prog_1_method_5_code
abbrev yX0_stop : MethodName := ⟨RX0, "stop", "(I)I"⟩
abbrev wsX0_stop : List Cond := [.code yX0_stop cX0_stop 3 (some .int)]
abbrev cX0_run : ByteArray := prog_1_method_6_code
abbrev yX0_run : MethodName := ⟨RX0, "run", "(II)I"⟩
abbrev wsX0_run : List Cond := [.code yX0_run cX0_run 4 (some .int)]
abbrev cX0_joined : ByteArray := prog_1_method_7_code
abbrev yX0_joined : MethodName := ⟨RX0, "joined", "()J"⟩
abbrev wsX0_joined : List Cond := [.code yX0_joined cX0_joined 1 (some .long)]
abbrev cX0_many : ByteArray := prog_1_method_8_code
abbrev yX0_many : MethodName := ⟨RX0, "many", "()I"⟩
abbrev wsX0_many : List Cond := [.code yX0_many cX0_many 1 (some .int)]
abbrev cX0_value : ByteArray := prog_1_method_9_code
abbrev yX0_value : MethodName := ⟨RX0, "value", "(I)I"⟩
abbrev wsX0_value : List Cond := [.code yX0_value cX0_value 2 (some .int)]
abbrev cX0_chain : ByteArray := prog_1_method_10_code
abbrev yX0_chain : MethodName := ⟨RX0, "chain", "(II)J"⟩
abbrev wsX0_chain : List Cond := [.code yX0_chain cX0_chain 3 (some .long)]
abbrev cX0_came : ByteArray := prog_1_method_11_code
abbrev yX0_came : MethodName := ⟨RX0, "came", "(I)I"⟩
abbrev wsX0_came : List Cond := [.code yX0_came cX0_came 2 (some .int)]
abbrev cX0_begun : ByteArray := prog_1_method_12_code
abbrev yX0_begun : MethodName := ⟨RX0, "begun", "(I)I"⟩
abbrev wsX0_begun : List Cond := [.code yX0_begun cX0_begun 2 (some .int)]
abbrev cX0_steps : ByteArray := prog_1_method_13_code
abbrev yX0_steps : MethodName := ⟨RX0, "steps", "(I)I"⟩
abbrev wsX0_steps : List Cond := [.code yX0_steps cX0_steps 2 (some .int)]
abbrev cX0_count : ByteArray := prog_1_method_14_code
abbrev yX0_count : MethodName := ⟨RX0, "count", "(I)I"⟩
abbrev wsX0_count : List Cond := [.code yX0_count cX0_count 2 (some .int)]
abbrev cX0_needShare : ByteArray := prog_1_method_15_code
abbrev yX0_needShare : MethodName := ⟨RX0, "needShare", "(I)V"⟩
abbrev wsX0_needShare : List Cond := [.code yX0_needShare cX0_needShare 2 none]
abbrev cX0_needRun : ByteArray := prog_1_method_16_code
abbrev yX0_needRun : MethodName := ⟨RX0, "needRun", "()V"⟩
abbrev wsX0_needRun : List Cond := [.code yX0_needRun cX0_needRun 1 none]
abbrev cX1_init : ByteArray := prog_3_method_1_code
abbrev yX1_init : MethodName := ⟨RX1, "<init>", "(I)V"⟩
abbrev wsX1_init : List Cond := [.code yX1_init cX1_init 2 none]
abbrev cX1_behind : ByteArray := prog_3_method_2_code
abbrev yX1_behind : MethodName := ⟨RX1, "behind", "(II)J"⟩
abbrev wsX1_behind : List Cond := [.code yX1_behind cX1_behind 6 (some .long)]
abbrev cX1_lastValue : ByteArray := prog_3_method_3_code
abbrev yX1_lastValue : MethodName := ⟨RX1, "lastValue", "(I)I"⟩
abbrev wsX1_lastValue : List Cond := [.code yX1_lastValue cX1_lastValue 2 (some .int)]
abbrev cX1_settles : ByteArray := prog_3_method_4_code
abbrev yX1_settles : MethodName := ⟨RX1, "settles", "(II)Z"⟩
abbrev wsX1_settles : List Cond := [.code yX1_settles cX1_settles 4 (some .boolean)]
abbrev cX1_allLosses : ByteArray := prog_3_method_5_code
abbrev yX1_allLosses : MethodName := ⟨RX1, "allLosses", "()I"⟩
abbrev wsX1_allLosses : List Cond := [.code yX1_allLosses cX1_allLosses 3 (some .int)]
abbrev cX1_stepsWithLosses : ByteArray := prog_3_method_6_code
abbrev yX1_stepsWithLosses : MethodName := ⟨RX1, "stepsWithLosses", "(I)I"⟩
abbrev wsX1_stepsWithLosses : List Cond := [.code yX1_stepsWithLosses cX1_stepsWithLosses 2 (some .int)]
abbrev cX2_init : ByteArray := prog_2_method_1_code
abbrev yX2_init : MethodName := ⟨RX2, "<init>", "()V"⟩
abbrev wsX2_init : List Cond := [.code yX2_init cX2_init 1 none]
abbrev cX2_append : ByteArray := prog_2_method_2_code
abbrev yX2_append : MethodName := ⟨RX2, "append", "(II)I"⟩
abbrev wsX2_append : List Cond := [.code yX2_append cX2_append 4 (some .int)]
abbrev cX3_init : ByteArray := prog_4_method_1_code
abbrev yX3_init : MethodName := ⟨RX3, "<init>", "(I)V"⟩
abbrev wsX3_init : List Cond := [.code yX3_init cX3_init 2 none]
abbrev cX3_doAll : ByteArray := prog_4_method_2_code
abbrev yX3_doAll : MethodName := ⟨RX3, "doAll", "(LDrawShares$Shares;)V"⟩
abbrev wsX3_doAll : List Cond := [.code yX3_doAll cX3_doAll 3 none]
abbrev cX3_joinAll : ByteArray := prog_4_method_3_code
abbrev yX3_joinAll : MethodName := ⟨RX3, "joinAll", "(LDrawShares$Shares;LDrawShares$Acts;I)I"⟩
abbrev wsX3_joinAll : List Cond := [.code yX3_joinAll cX3_joinAll 5 (some .int)]
abbrev cX3_letIn : ByteArray := prog_4_method_4_code
abbrev yX3_letIn : MethodName := ⟨RX3, "letIn", "(LDrawShares$Acts;I)V"⟩
abbrev wsX3_letIn : List Cond := [.code yX3_letIn cX3_letIn 4 none]
abbrev cM0_init : ByteArray := prog_6_method_1_code
abbrev yM0_init : MethodName := ⟨RM0, "<init>", "(I)V"⟩
abbrev wsM0_init : List Cond := [.code yM0_init cM0_init 3 none]
abbrev cM0_thrown : ByteArray := prog_6_method_2_code
abbrev yM0_thrown : MethodName := ⟨RM0, "thrown", "()I"⟩
abbrev wsM0_thrown : List Cond := [.code yM0_thrown cM0_thrown 1 (some .int)]
abbrev cM0_refuse : ByteArray := prog_6_method_3_code
abbrev yM0_refuse : MethodName := ⟨RM0, "refuse", "(I)I"⟩
abbrev wsM0_refuse : List Cond := [.code yM0_refuse cM0_refuse 2 (some .int)]
abbrev cM0_isShare : ByteArray := prog_6_method_4_code
abbrev yM0_isShare : MethodName := ⟨RM0, "isShare", "(I)Z"⟩
abbrev wsM0_isShare : List Cond := [.code yM0_isShare cM0_isShare 2 (some .boolean)]
abbrev cM0_in : ByteArray := prog_6_method_5_code
abbrev yM0_in : MethodName := ⟨RM0, "in", "(III)Z"⟩
abbrev wsM0_in : List Cond := [.code yM0_in cM0_in 3 (some .boolean)]
abbrev cM0_share : ByteArray := prog_6_method_6_code
abbrev yM0_share : MethodName := ⟨RM0, "share", "(IIII)I"⟩
abbrev wsM0_share : List Cond := [.code yM0_share cM0_share 6 (some .int)]
abbrev cM0_fails : ByteArray := prog_6_method_7_code
abbrev yM0_fails : MethodName := ⟨RM0, "fails", "(III)I"⟩
abbrev wsM0_fails : List Cond := [.code yM0_fails cM0_fails 5 (some .int)]
abbrev cM0_act : ByteArray := prog_6_method_8_code
abbrev yM0_act : MethodName := ⟨RM0, "act", "(II)I"⟩
abbrev wsM0_act : List Cond := [.code yM0_act cM0_act 3 (some .int)]
abbrev cM0_stop : ByteArray := prog_6_method_9_code
abbrev yM0_stop : MethodName := ⟨RM0, "stop", "(I)I"⟩
abbrev wsM0_stop : List Cond := [.code yM0_stop cM0_stop 3 (some .int)]
abbrev cM0_after : ByteArray := prog_6_method_10_code
abbrev yM0_after : MethodName := ⟨RM0, "after", "(II)J"⟩
abbrev wsM0_after : List Cond := [.code yM0_after cM0_after 6 (some .long)]
abbrev cM0_acted : ByteArray := prog_6_method_11_code
abbrev yM0_acted : MethodName := ⟨RM0, "acted", "(I)V"⟩
abbrev wsM0_acted : List Cond := [.code yM0_acted cM0_acted 3 none]
abbrev cM0_settles : ByteArray := prog_6_method_12_code
abbrev yM0_settles : MethodName := ⟨RM0, "settles", "(I)Z"⟩
abbrev wsM0_settles : List Cond := [.code yM0_settles cM0_settles 2 (some .boolean)]
abbrev cM0_join : ByteArray := prog_6_method_13_code
abbrev yM0_join : MethodName := ⟨RM0, "join", "()I"⟩
abbrev wsM0_join : List Cond := [.code yM0_join cM0_join 2 (some .int)]
abbrev cM0_run : ByteArray := prog_6_method_14_code
abbrev yM0_run : MethodName := ⟨RM0, "run", "(II)I"⟩
abbrev wsM0_run : List Cond := [.code yM0_run cM0_run 5 (some .int)]
abbrev cM0_isNone : ByteArray := prog_6_method_15_code
abbrev yM0_isNone : MethodName := ⟨RM0, "isNone", "()Z"⟩
abbrev wsM0_isNone : List Cond := [.code yM0_isNone cM0_isNone 1 (some .boolean)]
abbrev cM0_joined : ByteArray := prog_6_method_16_code
abbrev yM0_joined : MethodName := ⟨RM0, "joined", "()J"⟩
abbrev wsM0_joined : List Cond := [.code yM0_joined cM0_joined 1 (some .long)]
abbrev cM0_many : ByteArray := prog_6_method_17_code
abbrev yM0_many : MethodName := ⟨RM0, "many", "()I"⟩
abbrev wsM0_many : List Cond := [.code yM0_many cM0_many 1 (some .int)]
abbrev cM0_isRefused : ByteArray := prog_6_method_18_code
abbrev yM0_isRefused : MethodName := ⟨RM0, "isRefused", "(Z)Z"⟩
abbrev wsM0_isRefused : List Cond := [.code yM0_isRefused cM0_isRefused 2 (some .boolean)]
abbrev cM0_value : ByteArray := prog_6_method_19_code
abbrev yM0_value : MethodName := ⟨RM0, "value", "(I)I"⟩
abbrev wsM0_value : List Cond := [.code yM0_value cM0_value 2 (some .int)]
abbrev cM0_chain : ByteArray := prog_6_method_20_code
abbrev yM0_chain : MethodName := ⟨RM0, "chain", "(II)J"⟩
abbrev wsM0_chain : List Cond := [.code yM0_chain cM0_chain 3 (some .long)]
abbrev cM0_came : ByteArray := prog_6_method_21_code
abbrev yM0_came : MethodName := ⟨RM0, "came", "(I)I"⟩
abbrev wsM0_came : List Cond := [.code yM0_came cM0_came 2 (some .int)]
abbrev cM0_begun : ByteArray := prog_6_method_22_code
abbrev yM0_begun : MethodName := ⟨RM0, "begun", "(I)I"⟩
abbrev wsM0_begun : List Cond := [.code yM0_begun cM0_begun 2 (some .int)]
abbrev cM0_steps : ByteArray := prog_6_method_23_code
abbrev yM0_steps : MethodName := ⟨RM0, "steps", "(I)I"⟩
abbrev wsM0_steps : List Cond := [.code yM0_steps cM0_steps 2 (some .int)]
abbrev cM0_count : ByteArray := prog_6_method_24_code
abbrev yM0_count : MethodName := ⟨RM0, "count", "(I)I"⟩
abbrev wsM0_count : List Cond := [.code yM0_count cM0_count 2 (some .int)]
abbrev cL_cell : ByteArray := method_2_code
abbrev yL_cell : MethodName := ⟨RL, "cell", "([II)I"⟩
abbrev wsL_cell : List Cond := [.code yL_cell cL_cell 2 (some .int)]
abbrev cL_share : ByteArray := method_3_code
abbrev yL_share : MethodName := ⟨RL, "share", "(LDrawShares;IIII[J)I"⟩
abbrev wsL_share : List Cond := [.codeWith yL_share cL_share 7 (some .int) [(0, 14, 17, 13), (0, 14, 21, 15)]]
abbrev cL_fails : ByteArray := method_4_code
abbrev yL_fails : MethodName := ⟨RL, "fails", "(LDrawShares;III[J)I"⟩
abbrev wsL_fails : List Cond := [.codeWith yL_fails cL_fails 6 (some .int) [(0, 12, 15, 13), (0, 12, 19, 15)]]
abbrev cL_act : ByteArray := method_5_code
abbrev yL_act : MethodName := ⟨RL, "act", "(LDrawShares;II[J)I"⟩
abbrev wsL_act : List Cond := [.codeWith yL_act cL_act 5 (some .int) [(0, 10, 13, 13), (0, 10, 17, 25)]]
abbrev cL_stop : ByteArray := method_6_code
abbrev yL_stop : MethodName := ⟨RL, "stop", "(LDrawShares;I[J)I"⟩
abbrev wsL_stop : List Cond := [.codeWith yL_stop cL_stop 4 (some .int) [(0, 9, 12, 13)]]
abbrev cL_run : ByteArray := method_7_code
abbrev yL_run : MethodName := ⟨RL, "run", "(LDrawShares;II[J)I"⟩
abbrev wsL_run : List Cond := [.codeWith yL_run cL_run 5 (some .int) [(0, 10, 13, 15)]]
abbrev cL_joined : ByteArray := method_8_code
abbrev yL_joined : MethodName := ⟨RL, "joined", "(LDrawShares;[J)I"⟩
abbrev wsL_joined : List Cond := [.codeWith yL_joined cL_joined 3 (some .int) [(0, 7, 10, 25)]]
abbrev cL_many : ByteArray := method_9_code
abbrev yL_many : MethodName := ⟨RL, "many", "(LDrawShares;[J)I"⟩
abbrev wsL_many : List Cond := [.codeWith yL_many cL_many 3 (some .int) [(0, 8, 11, 25)]]
abbrev cL_value : ByteArray := method_10_code
abbrev yL_value : MethodName := ⟨RL, "value", "(LDrawShares;I[J)I"⟩
abbrev wsL_value : List Cond := [.codeWith yL_value cL_value 4 (some .int) [(0, 9, 12, 13), (0, 9, 15, 25)]]
abbrev cL_chain : ByteArray := method_11_code
abbrev yL_chain : MethodName := ⟨RL, "chain", "(LDrawShares;II[J)I"⟩
abbrev wsL_chain : List Cond := [.codeWith yL_chain cL_chain 5 (some .int) [(0, 9, 12, 13)]]
abbrev cL_came : ByteArray := method_12_code
abbrev yL_came : MethodName := ⟨RL, "came", "(LDrawShares;I[J)I"⟩
abbrev wsL_came : List Cond := [.codeWith yL_came cL_came 4 (some .int) [(0, 9, 12, 13), (0, 9, 15, 25)]]
abbrev cL_begun : ByteArray := method_13_code
abbrev yL_begun : MethodName := ⟨RL, "begun", "(LDrawShares;I[J)I"⟩
abbrev wsL_begun : List Cond := [.codeWith yL_begun cL_begun 4 (some .int) [(0, 9, 12, 13), (0, 9, 15, 25)]]
abbrev cL_steps : ByteArray := method_14_code
abbrev yL_steps : MethodName := ⟨RL, "steps", "(LDrawShares;I[J)I"⟩
abbrev wsL_steps : List Cond := [.codeWith yL_steps cL_steps 4 (some .int) [(0, 9, 12, 13), (0, 9, 15, 25)]]
abbrev cL_count : ByteArray := method_15_code
abbrev yL_count : MethodName := ⟨RL, "count", "(LDrawShares;I[J)I"⟩
abbrev wsL_count : List Cond := [.codeWith yL_count cL_count 4 (some .int) [(0, 9, 12, 13)]]
abbrev cL_law : ByteArray := code
abbrev yL_law : MethodName := ⟨RL, "law", "([I)Z"⟩
abbrev cJ0_fill : ByteArray := prog_15_method_103_code
abbrev yJ0_fill : MethodName := ⟨RJ0, "fill", "([II)V"⟩
abbrev wsJ0_fill : List Cond := [.code yJ0_fill cJ0_fill 4 none]
end
section
theorem m_0 : Cond.selects "DrawShares" ⟨"DrawShares", "needShare", "(I)V"⟩ ⟨"DrawShares", "needShare", "(I)V"⟩ ∈ lw_tbl := List.mem_of_getElem? (i := 0) (by decide +kernel)
theorem m_1 : Cond.selects "java/lang/Throwable" ⟨"java/lang/Throwable", "fillInStackTrace", "(I)Ljava/lang/Throwable;"⟩ ⟨"java/lang/Throwable", "fillInStackTrace", "(I)Ljava/lang/Throwable;"⟩ ∈ lw_tbl := List.mem_of_getElem? (i := 1) (by decide +kernel)
theorem m_2 : Cond.selects "DrawShares$Acts" ⟨"DrawShares$Acts", "append", "(II)I"⟩ ⟨"DrawShares$Acts", "append", "(II)I"⟩ ∈ lw_tbl := List.mem_of_getElem? (i := 2) (by decide +kernel)
theorem m_3 : Cond.selects "DrawShares$Shares" ⟨"DrawShares$Shares", "allLosses", "()I"⟩ ⟨"DrawShares$Shares", "allLosses", "()I"⟩ ∈ lw_tbl := List.mem_of_getElem? (i := 3) (by decide +kernel)
theorem m_4 : Cond.selects "DrawShares$Told" ⟨"DrawShares$Told", "doAll", "(LDrawShares$Shares;)V"⟩ ⟨"DrawShares$Told", "doAll", "(LDrawShares$Shares;)V"⟩ ∈ lw_tbl := List.mem_of_getElem? (i := 4) (by decide +kernel)
theorem m_5 : Cond.selects "DrawShares$Shares" ⟨"DrawShares$Shares", "lastValue", "(I)I"⟩ ⟨"DrawShares$Shares", "lastValue", "(I)I"⟩ ∈ lw_tbl := List.mem_of_getElem? (i := 5) (by decide +kernel)
theorem m_6 : Cond.selects "DrawShares$Shares" ⟨"DrawShares$Shares", "behind", "(II)J"⟩ ⟨"DrawShares$Shares", "behind", "(II)J"⟩ ∈ lw_tbl := List.mem_of_getElem? (i := 6) (by decide +kernel)
theorem m_7 : Cond.selects "DrawShares$Shares" ⟨"DrawShares$Shares", "stepsWithLosses", "(I)I"⟩ ⟨"DrawShares$Shares", "stepsWithLosses", "(I)I"⟩ ∈ lw_tbl := List.mem_of_getElem? (i := 7) (by decide +kernel)
theorem m_8 : Cond.selects "DrawShares$Told" ⟨"DrawShares$Told", "joinAll", "(LDrawShares$Shares;LDrawShares$Acts;I)I"⟩ ⟨"DrawShares$Told", "joinAll", "(LDrawShares$Shares;LDrawShares$Acts;I)I"⟩ ∈ lw_tbl := List.mem_of_getElem? (i := 8) (by decide +kernel)
theorem m_9 : Cond.selects "DrawShares$Told" ⟨"DrawShares$Told", "letIn", "(LDrawShares$Acts;I)V"⟩ ⟨"DrawShares$Told", "letIn", "(LDrawShares$Acts;I)V"⟩ ∈ lw_tbl := List.mem_of_getElem? (i := 9) (by decide +kernel)
theorem m_10 : Cond.selects "DrawShares$Shares" ⟨"DrawShares$Shares", "settles", "(II)Z"⟩ ⟨"DrawShares$Shares", "settles", "(II)Z"⟩ ∈ lw_tbl := List.mem_of_getElem? (i := 10) (by decide +kernel)
theorem m_11 : Cond.selects "DrawShares" ⟨"DrawShares", "needRun", "()V"⟩ ⟨"DrawShares", "needRun", "()V"⟩ ∈ lw_tbl := List.mem_of_getElem? (i := 11) (by decide +kernel)
theorem m_12 : Cond.selects "DrawSharesModel" ⟨"DrawSharesModel", "isShare", "(I)Z"⟩ ⟨"DrawSharesModel", "isShare", "(I)Z"⟩ ∈ lw_tbl := List.mem_of_getElem? (i := 12) (by decide +kernel)
theorem m_13 : Cond.selects "DrawSharesModel" ⟨"DrawSharesModel", "refuse", "(I)I"⟩ ⟨"DrawSharesModel", "refuse", "(I)I"⟩ ∈ lw_tbl := List.mem_of_getElem? (i := 13) (by decide +kernel)
theorem m_14 : Cond.selects "DrawSharesModel" ⟨"DrawSharesModel", "after", "(II)J"⟩ ⟨"DrawSharesModel", "after", "(II)J"⟩ ∈ lw_tbl := List.mem_of_getElem? (i := 14) (by decide +kernel)
theorem m_15 : Cond.selects "DrawSharesModel" ⟨"DrawSharesModel", "join", "()I"⟩ ⟨"DrawSharesModel", "join", "()I"⟩ ∈ lw_tbl := List.mem_of_getElem? (i := 15) (by decide +kernel)
theorem m_16 : Cond.selects "DrawSharesModel" ⟨"DrawSharesModel", "acted", "(I)V"⟩ ⟨"DrawSharesModel", "acted", "(I)V"⟩ ∈ lw_tbl := List.mem_of_getElem? (i := 16) (by decide +kernel)
theorem m_17 : Cond.selects "DrawSharesModel" ⟨"DrawSharesModel", "settles", "(I)Z"⟩ ⟨"DrawSharesModel", "settles", "(I)Z"⟩ ∈ lw_tbl := List.mem_of_getElem? (i := 17) (by decide +kernel)
theorem m_18 : Cond.selects "DrawSharesModel" ⟨"DrawSharesModel", "isNone", "()Z"⟩ ⟨"DrawSharesModel", "isNone", "()Z"⟩ ∈ lw_tbl := List.mem_of_getElem? (i := 18) (by decide +kernel)
theorem m_19 : Cond.selects "DrawSharesModel" ⟨"DrawSharesModel", "isRefused", "(Z)Z"⟩ ⟨"DrawSharesModel", "isRefused", "(Z)Z"⟩ ∈ lw_tbl := List.mem_of_getElem? (i := 19) (by decide +kernel)
theorem m_20 : (Jvm.Cond.initialized "DrawSharesLaw") ∈ lw_tbl := List.mem_of_getElem? (i := 20) (by decide +kernel)
theorem m_21 : (Jvm.Cond.initialized "DrawShares") ∈ lw_tbl := List.mem_of_getElem? (i := 21) (by decide +kernel)
theorem m_22 : (Jvm.Cond.initialized "java/lang/Math") ∈ lw_tbl := List.mem_of_getElem? (i := 22) (by decide +kernel)
theorem m_23 : (Jvm.Cond.initialized "DrawShares$Shares") ∈ lw_tbl := List.mem_of_getElem? (i := 23) (by decide +kernel)
theorem m_24 : (Jvm.Cond.initialized "java/util/Arrays") ∈ lw_tbl := List.mem_of_getElem? (i := 24) (by decide +kernel)
theorem m_25 : (Jvm.Cond.initialized "DrawShares$Acts") ∈ lw_tbl := List.mem_of_getElem? (i := 25) (by decide +kernel)
theorem m_26 : (Jvm.Cond.initialized "DrawShares$Told") ∈ lw_tbl := List.mem_of_getElem? (i := 26) (by decide +kernel)
theorem m_27 : (Jvm.Cond.initialized "DrawSharesModel") ∈ lw_tbl := List.mem_of_getElem? (i := 27) (by decide +kernel)
theorem m_28 : (Jvm.Cond.initialized "java/lang/Throwable") ∈ lw_tbl := List.mem_of_getElem? (i := 28) (by decide +kernel)
theorem m_29 : (Jvm.Cond.initialized "java/lang/Exception") ∈ lw_tbl := List.mem_of_getElem? (i := 29) (by decide +kernel)
theorem m_30 : (Jvm.Cond.initialized "java/lang/RuntimeException") ∈ lw_tbl := List.mem_of_getElem? (i := 30) (by decide +kernel)
theorem m_31 : (Jvm.Cond.initialized "java/lang/IndexOutOfBoundsException") ∈ lw_tbl := List.mem_of_getElem? (i := 31) (by decide +kernel)
theorem m_32 : (Jvm.Cond.initialized "java/lang/IllegalArgumentException") ∈ lw_tbl := List.mem_of_getElem? (i := 32) (by decide +kernel)
theorem m_33 : (Jvm.Cond.initialized "java/lang/IllegalStateException") ∈ lw_tbl := List.mem_of_getElem? (i := 33) (by decide +kernel)
theorem m_34 : (Jvm.Cond.classLink "DrawSharesLaw" (8 : Nat) "DrawShares") ∈ lw_tbl := List.mem_of_getElem? (i := 34) (by decide +kernel)
theorem m_35 : (Jvm.Cond.instantiable "DrawShares" (6 : Nat)) ∈ lw_tbl := List.mem_of_getElem? (i := 35) (by decide +kernel)
theorem m_36 : (Jvm.Cond.methodLink "DrawSharesLaw" (67 : Nat) ({ cls := "DrawShares", name := "<init>", desc := "(I)V" } : Jvm.MethodName)) ∈ lw_tbl := List.mem_of_getElem? (i := 36) (by decide +kernel)
theorem m_37 : (Jvm.Cond.instanceMethod ({ cls := "DrawShares", name := "<init>", desc := "(I)V" } : Jvm.MethodName)) ∈ lw_tbl := List.mem_of_getElem? (i := 37) (by decide +kernel)
theorem m_38 : (Jvm.Cond.code ({ cls := "DrawShares", name := "<init>", desc := "(I)V" } : Jvm.MethodName) prog_1_method_1_code (3 : Nat) (Option.none : Option Jvm.ClassFile.FieldType)) ∈ lw_tbl := List.mem_of_getElem? (i := 38) (by decide +kernel)
theorem m_39 : (Jvm.Cond.methodLink "DrawShares" (1 : Nat) ({ cls := "java/lang/Object", name := "<init>", desc := "()V" } : Jvm.MethodName)) ∈ lw_tbl := List.mem_of_getElem? (i := 39) (by decide +kernel)
theorem m_40 : (Jvm.Cond.instanceMethod ({ cls := "java/lang/Object", name := "<init>", desc := "()V" } : Jvm.MethodName)) ∈ lw_tbl := List.mem_of_getElem? (i := 40) (by decide +kernel)
theorem m_41 : (Jvm.Cond.code ({ cls := "java/lang/Object", name := "<init>", desc := "()V" } : Jvm.MethodName) object_method_1_code (1 : Nat) (Option.none : Option Jvm.ClassFile.FieldType)) ∈ lw_tbl := List.mem_of_getElem? (i := 41) (by decide +kernel)
theorem m_42 : (Jvm.Cond.methodLink "DrawShares" (9 : Nat) ({ cls := "java/lang/Math", name := "min", desc := "(II)I" } : Jvm.MethodName)) ∈ lw_tbl := List.mem_of_getElem? (i := 42) (by decide +kernel)
theorem m_43 : (Jvm.Cond.static ({ cls := "java/lang/Math", name := "min", desc := "(II)I" } : Jvm.MethodName)) ∈ lw_tbl := List.mem_of_getElem? (i := 43) (by decide +kernel)
theorem m_44 : (Jvm.Cond.code ({ cls := "java/lang/Math", name := "min", desc := "(II)I" } : Jvm.MethodName) prog_11_method_69_code (2 : Nat) (Option.some Jvm.ClassFile.FieldType.int)) ∈ lw_tbl := List.mem_of_getElem? (i := 44) (by decide +kernel)
theorem m_45 : (Jvm.Cond.methodLink "DrawShares" (15 : Nat) ({ cls := "java/lang/Math", name := "max", desc := "(II)I" } : Jvm.MethodName)) ∈ lw_tbl := List.mem_of_getElem? (i := 45) (by decide +kernel)
theorem m_46 : (Jvm.Cond.static ({ cls := "java/lang/Math", name := "max", desc := "(II)I" } : Jvm.MethodName)) ∈ lw_tbl := List.mem_of_getElem? (i := 46) (by decide +kernel)
theorem m_47 : (Jvm.Cond.code ({ cls := "java/lang/Math", name := "max", desc := "(II)I" } : Jvm.MethodName) prog_11_method_65_code (2 : Nat) (Option.some Jvm.ClassFile.FieldType.int)) ∈ lw_tbl := List.mem_of_getElem? (i := 47) (by decide +kernel)
theorem m_48 : (Jvm.Cond.classLink "DrawShares" (18 : Nat) "DrawShares$Shares") ∈ lw_tbl := List.mem_of_getElem? (i := 48) (by decide +kernel)
theorem m_49 : (Jvm.Cond.instantiable "DrawShares$Shares" (6 : Nat)) ∈ lw_tbl := List.mem_of_getElem? (i := 49) (by decide +kernel)
theorem m_50 : (Jvm.Cond.methodLinkNest "DrawShares" (20 : Nat) ({ cls := "DrawShares$Shares", name := "<init>", desc := "(I)V" } : Jvm.MethodName) "DrawShares") ∈ lw_tbl := List.mem_of_getElem? (i := 50) (by decide +kernel)
theorem m_51 : (Jvm.Cond.instanceMethod ({ cls := "DrawShares$Shares", name := "<init>", desc := "(I)V" } : Jvm.MethodName)) ∈ lw_tbl := List.mem_of_getElem? (i := 51) (by decide +kernel)
theorem m_52 : (Jvm.Cond.code ({ cls := "DrawShares$Shares", name := "<init>", desc := "(I)V" } : Jvm.MethodName) prog_3_method_1_code (2 : Nat) (Option.none : Option Jvm.ClassFile.FieldType)) ∈ lw_tbl := List.mem_of_getElem? (i := 52) (by decide +kernel)
theorem m_53 : (Jvm.Cond.methodLink "DrawShares$Shares" (1 : Nat) ({ cls := "java/lang/Object", name := "<init>", desc := "()V" } : Jvm.MethodName)) ∈ lw_tbl := List.mem_of_getElem? (i := 53) (by decide +kernel)
theorem m_54 : (Jvm.Cond.methodLink "DrawShares$Shares" (29 : Nat) ({ cls := "java/util/Arrays", name := "fill", desc := "([II)V" } : Jvm.MethodName)) ∈ lw_tbl := List.mem_of_getElem? (i := 54) (by decide +kernel)
theorem m_55 : (Jvm.Cond.static ({ cls := "java/util/Arrays", name := "fill", desc := "([II)V" } : Jvm.MethodName)) ∈ lw_tbl := List.mem_of_getElem? (i := 55) (by decide +kernel)
theorem m_56 : (Jvm.Cond.code ({ cls := "java/util/Arrays", name := "fill", desc := "([II)V" } : Jvm.MethodName) prog_15_method_103_code (4 : Nat) (Option.none : Option Jvm.ClassFile.FieldType)) ∈ lw_tbl := List.mem_of_getElem? (i := 56) (by decide +kernel)
theorem m_57 : (Jvm.Cond.fieldLink "DrawShares$Shares" (7 : Nat) "DrawShares$Shares" "size" "I") ∈ lw_tbl := List.mem_of_getElem? (i := 57) (by decide +kernel)
theorem m_58 : (Jvm.Cond.fieldLinkNest "DrawShares$Told" (29 : Nat) "DrawShares$Shares" "size" "I" "DrawShares") ∈ lw_tbl := List.mem_of_getElem? (i := 58) (by decide +kernel)
theorem m_59 : (Jvm.Cond.fieldLinkNest "DrawShares" (77 : Nat) "DrawShares$Shares" "size" "I" "DrawShares") ∈ lw_tbl := List.mem_of_getElem? (i := 59) (by decide +kernel)
theorem m_60 : (Jvm.Cond.fieldLink "DrawShares$Shares" (13 : Nat) "DrawShares$Shares" "work" "[I") ∈ lw_tbl := List.mem_of_getElem? (i := 60) (by decide +kernel)
theorem m_61 : (Jvm.Cond.fieldLinkNest "DrawShares" (57 : Nat) "DrawShares$Shares" "work" "[I" "DrawShares") ∈ lw_tbl := List.mem_of_getElem? (i := 61) (by decide +kernel)
theorem m_62 : (Jvm.Cond.fieldLink "DrawShares$Shares" (17 : Nat) "DrawShares$Shares" "seed" "[I") ∈ lw_tbl := List.mem_of_getElem? (i := 62) (by decide +kernel)
theorem m_63 : (Jvm.Cond.fieldLinkNest "DrawShares" (61 : Nat) "DrawShares$Shares" "seed" "[I" "DrawShares") ∈ lw_tbl := List.mem_of_getElem? (i := 63) (by decide +kernel)
theorem m_64 : (Jvm.Cond.fieldLink "DrawShares$Shares" (20 : Nat) "DrawShares$Shares" "bits" "[I") ∈ lw_tbl := List.mem_of_getElem? (i := 64) (by decide +kernel)
theorem m_65 : (Jvm.Cond.fieldLinkNest "DrawShares" (64 : Nat) "DrawShares$Shares" "bits" "[I" "DrawShares") ∈ lw_tbl := List.mem_of_getElem? (i := 65) (by decide +kernel)
theorem m_66 : (Jvm.Cond.fieldLink "DrawShares$Shares" (23 : Nat) "DrawShares$Shares" "lossStep" "[I") ∈ lw_tbl := List.mem_of_getElem? (i := 66) (by decide +kernel)
theorem m_67 : (Jvm.Cond.fieldLinkNest "DrawShares" (74 : Nat) "DrawShares$Shares" "lossStep" "[I" "DrawShares") ∈ lw_tbl := List.mem_of_getElem? (i := 67) (by decide +kernel)
theorem m_68 : (Jvm.Cond.fieldLink "DrawShares$Shares" (26 : Nat) "DrawShares$Shares" "losses" "[I") ∈ lw_tbl := List.mem_of_getElem? (i := 68) (by decide +kernel)
theorem m_69 : (Jvm.Cond.fieldLinkNest "DrawShares$Told" (38 : Nat) "DrawShares$Shares" "losses" "[I" "DrawShares") ∈ lw_tbl := List.mem_of_getElem? (i := 69) (by decide +kernel)
theorem m_70 : (Jvm.Cond.fieldLinkNest "DrawShares" (71 : Nat) "DrawShares$Shares" "losses" "[I" "DrawShares") ∈ lw_tbl := List.mem_of_getElem? (i := 70) (by decide +kernel)
theorem m_71 : (Jvm.Cond.laysFinal "DrawShares$Shares" "DrawShares$Shares" "size" "I") ∈ lw_tbl := List.mem_of_getElem? (i := 71) (by decide +kernel)
theorem m_72 : (Jvm.Cond.soleField "DrawShares$Shares" "size") ∈ lw_tbl := List.mem_of_getElem? (i := 72) (by decide +kernel)
theorem m_73 : (Jvm.Cond.laysFinal "DrawShares$Shares" "DrawShares$Shares" "work" "[I") ∈ lw_tbl := List.mem_of_getElem? (i := 73) (by decide +kernel)
theorem m_74 : (Jvm.Cond.soleField "DrawShares$Shares" "work") ∈ lw_tbl := List.mem_of_getElem? (i := 74) (by decide +kernel)
theorem m_75 : (Jvm.Cond.laysFinal "DrawShares$Shares" "DrawShares$Shares" "seed" "[I") ∈ lw_tbl := List.mem_of_getElem? (i := 75) (by decide +kernel)
theorem m_76 : (Jvm.Cond.soleField "DrawShares$Shares" "seed") ∈ lw_tbl := List.mem_of_getElem? (i := 76) (by decide +kernel)
theorem m_77 : (Jvm.Cond.laysFinal "DrawShares$Shares" "DrawShares$Shares" "bits" "[I") ∈ lw_tbl := List.mem_of_getElem? (i := 77) (by decide +kernel)
theorem m_78 : (Jvm.Cond.soleField "DrawShares$Shares" "bits") ∈ lw_tbl := List.mem_of_getElem? (i := 78) (by decide +kernel)
theorem m_79 : (Jvm.Cond.laysFinal "DrawShares$Shares" "DrawShares$Shares" "lossStep" "[I") ∈ lw_tbl := List.mem_of_getElem? (i := 79) (by decide +kernel)
theorem m_80 : (Jvm.Cond.soleField "DrawShares$Shares" "lossStep") ∈ lw_tbl := List.mem_of_getElem? (i := 80) (by decide +kernel)
theorem m_81 : (Jvm.Cond.laysFinal "DrawShares$Shares" "DrawShares$Shares" "losses" "[I") ∈ lw_tbl := List.mem_of_getElem? (i := 81) (by decide +kernel)
theorem m_82 : (Jvm.Cond.soleField "DrawShares$Shares" "losses") ∈ lw_tbl := List.mem_of_getElem? (i := 82) (by decide +kernel)
theorem m_83 : (Jvm.Cond.superclass "DrawShares$Shares" "java/lang/Object") ∈ lw_tbl := List.mem_of_getElem? (i := 83) (by decide +kernel)
theorem m_84 : (Jvm.Cond.arrayClass Jvm.ClassFile.FieldType.int) ∈ lw_tbl := List.mem_of_getElem? (i := 84) (by decide +kernel)
theorem m_85 : (Jvm.Cond.classLink "DrawShares" (27 : Nat) "DrawShares$Acts") ∈ lw_tbl := List.mem_of_getElem? (i := 85) (by decide +kernel)
theorem m_86 : (Jvm.Cond.instantiable "DrawShares$Acts" (3 : Nat)) ∈ lw_tbl := List.mem_of_getElem? (i := 86) (by decide +kernel)
theorem m_87 : (Jvm.Cond.methodLinkNest "DrawShares" (29 : Nat) ({ cls := "DrawShares$Acts", name := "<init>", desc := "()V" } : Jvm.MethodName) "DrawShares") ∈ lw_tbl := List.mem_of_getElem? (i := 87) (by decide +kernel)
theorem m_88 : (Jvm.Cond.instanceMethod ({ cls := "DrawShares$Acts", name := "<init>", desc := "()V" } : Jvm.MethodName)) ∈ lw_tbl := List.mem_of_getElem? (i := 88) (by decide +kernel)
theorem m_89 : (Jvm.Cond.code ({ cls := "DrawShares$Acts", name := "<init>", desc := "()V" } : Jvm.MethodName) prog_2_method_1_code (1 : Nat) (Option.none : Option Jvm.ClassFile.FieldType)) ∈ lw_tbl := List.mem_of_getElem? (i := 89) (by decide +kernel)
theorem m_90 : (Jvm.Cond.methodLink "DrawShares$Acts" (3 : Nat) ({ cls := "java/lang/Object", name := "<init>", desc := "()V" } : Jvm.MethodName)) ∈ lw_tbl := List.mem_of_getElem? (i := 90) (by decide +kernel)
theorem m_91 : (Jvm.Cond.fieldLink "DrawShares$Acts" (9 : Nat) "DrawShares$Acts" "rank" "[I") ∈ lw_tbl := List.mem_of_getElem? (i := 91) (by decide +kernel)
theorem m_92 : (Jvm.Cond.fieldLinkNest "DrawShares$Told" (70 : Nat) "DrawShares$Acts" "rank" "[I" "DrawShares") ∈ lw_tbl := List.mem_of_getElem? (i := 92) (by decide +kernel)
theorem m_93 : (Jvm.Cond.fieldLink "DrawShares$Acts" (15 : Nat) "DrawShares$Acts" "addend" "[I") ∈ lw_tbl := List.mem_of_getElem? (i := 93) (by decide +kernel)
theorem m_94 : (Jvm.Cond.fieldLinkNest "DrawShares$Told" (75 : Nat) "DrawShares$Acts" "addend" "[I" "DrawShares") ∈ lw_tbl := List.mem_of_getElem? (i := 94) (by decide +kernel)
theorem m_95 : (Jvm.Cond.fieldLink "DrawShares$Acts" (18 : Nat) "DrawShares$Acts" "size" "I") ∈ lw_tbl := List.mem_of_getElem? (i := 95) (by decide +kernel)
theorem m_96 : (Jvm.Cond.fieldLinkNest "DrawShares$Told" (67 : Nat) "DrawShares$Acts" "size" "I" "DrawShares") ∈ lw_tbl := List.mem_of_getElem? (i := 96) (by decide +kernel)
theorem m_97 : (Jvm.Cond.fieldLinkNest "DrawShares" (85 : Nat) "DrawShares$Acts" "size" "I" "DrawShares") ∈ lw_tbl := List.mem_of_getElem? (i := 97) (by decide +kernel)
theorem m_98 : (Jvm.Cond.laysFinal "DrawShares$Acts" "DrawShares$Acts" "rank" "[I") ∈ lw_tbl := List.mem_of_getElem? (i := 98) (by decide +kernel)
theorem m_99 : (Jvm.Cond.soleField "DrawShares$Acts" "rank") ∈ lw_tbl := List.mem_of_getElem? (i := 99) (by decide +kernel)
theorem m_100 : (Jvm.Cond.laysFinal "DrawShares$Acts" "DrawShares$Acts" "addend" "[I") ∈ lw_tbl := List.mem_of_getElem? (i := 100) (by decide +kernel)
theorem m_101 : (Jvm.Cond.soleField "DrawShares$Acts" "addend") ∈ lw_tbl := List.mem_of_getElem? (i := 101) (by decide +kernel)
theorem m_102 : (Jvm.Cond.lays "DrawShares$Acts" "DrawShares$Acts" "size" "I") ∈ lw_tbl := List.mem_of_getElem? (i := 102) (by decide +kernel)
theorem m_103 : (Jvm.Cond.soleField "DrawShares$Acts" "size") ∈ lw_tbl := List.mem_of_getElem? (i := 103) (by decide +kernel)
theorem m_104 : (Jvm.Cond.superclass "DrawShares$Acts" "java/lang/Object") ∈ lw_tbl := List.mem_of_getElem? (i := 104) (by decide +kernel)
theorem m_105 : (Jvm.Cond.classLink "DrawShares" (34 : Nat) "DrawShares$Told") ∈ lw_tbl := List.mem_of_getElem? (i := 105) (by decide +kernel)
theorem m_106 : (Jvm.Cond.instantiable "DrawShares$Told" (8 : Nat)) ∈ lw_tbl := List.mem_of_getElem? (i := 106) (by decide +kernel)
theorem m_107 : (Jvm.Cond.methodLinkNest "DrawShares" (36 : Nat) ({ cls := "DrawShares$Told", name := "<init>", desc := "(I)V" } : Jvm.MethodName) "DrawShares") ∈ lw_tbl := List.mem_of_getElem? (i := 107) (by decide +kernel)
theorem m_108 : (Jvm.Cond.instanceMethod ({ cls := "DrawShares$Told", name := "<init>", desc := "(I)V" } : Jvm.MethodName)) ∈ lw_tbl := List.mem_of_getElem? (i := 108) (by decide +kernel)
theorem m_109 : (Jvm.Cond.code ({ cls := "DrawShares$Told", name := "<init>", desc := "(I)V" } : Jvm.MethodName) prog_4_method_1_code (2 : Nat) (Option.none : Option Jvm.ClassFile.FieldType)) ∈ lw_tbl := List.mem_of_getElem? (i := 109) (by decide +kernel)
theorem m_110 : (Jvm.Cond.methodLink "DrawShares$Told" (3 : Nat) ({ cls := "java/lang/Object", name := "<init>", desc := "()V" } : Jvm.MethodName)) ∈ lw_tbl := List.mem_of_getElem? (i := 110) (by decide +kernel)
theorem m_111 : (Jvm.Cond.fieldLink "DrawShares$Told" (9 : Nat) "DrawShares$Told" "values" "[I") ∈ lw_tbl := List.mem_of_getElem? (i := 111) (by decide +kernel)
theorem m_112 : (Jvm.Cond.fieldLinkNest "DrawShares" (127 : Nat) "DrawShares$Told" "values" "[I" "DrawShares") ∈ lw_tbl := List.mem_of_getElem? (i := 112) (by decide +kernel)
theorem m_113 : (Jvm.Cond.fieldLink "DrawShares$Told" (15 : Nat) "DrawShares$Told" "begins" "[I") ∈ lw_tbl := List.mem_of_getElem? (i := 113) (by decide +kernel)
theorem m_114 : (Jvm.Cond.fieldLinkNest "DrawShares" (141 : Nat) "DrawShares$Told" "begins" "[I" "DrawShares") ∈ lw_tbl := List.mem_of_getElem? (i := 114) (by decide +kernel)
theorem m_115 : (Jvm.Cond.fieldLink "DrawShares$Told" (18 : Nat) "DrawShares$Told" "actsCame" "[I") ∈ lw_tbl := List.mem_of_getElem? (i := 115) (by decide +kernel)
theorem m_116 : (Jvm.Cond.fieldLinkNest "DrawShares" (138 : Nat) "DrawShares$Told" "actsCame" "[I" "DrawShares") ∈ lw_tbl := List.mem_of_getElem? (i := 116) (by decide +kernel)
theorem m_117 : (Jvm.Cond.fieldLink "DrawShares$Told" (21 : Nat) "DrawShares$Told" "ready" "Z") ∈ lw_tbl := List.mem_of_getElem? (i := 117) (by decide +kernel)
theorem m_118 : (Jvm.Cond.fieldLinkNest "DrawShares" (153 : Nat) "DrawShares$Told" "ready" "Z" "DrawShares") ∈ lw_tbl := List.mem_of_getElem? (i := 118) (by decide +kernel)
theorem m_119 : (Jvm.Cond.fieldLink "DrawShares$Told" (44 : Nat) "DrawShares$Told" "sum" "J") ∈ lw_tbl := List.mem_of_getElem? (i := 119) (by decide +kernel)
theorem m_120 : (Jvm.Cond.fieldLinkNest "DrawShares" (120 : Nat) "DrawShares$Told" "sum" "J" "DrawShares") ∈ lw_tbl := List.mem_of_getElem? (i := 120) (by decide +kernel)
theorem m_121 : (Jvm.Cond.fieldLink "DrawShares$Told" (48 : Nat) "DrawShares$Told" "joinedShares" "I") ∈ lw_tbl := List.mem_of_getElem? (i := 121) (by decide +kernel)
theorem m_122 : (Jvm.Cond.fieldLinkNest "DrawShares" (124 : Nat) "DrawShares$Told" "joinedShares" "I" "DrawShares") ∈ lw_tbl := List.mem_of_getElem? (i := 122) (by decide +kernel)
theorem m_123 : (Jvm.Cond.fieldLink "DrawShares$Told" (25 : Nat) "DrawShares$Told" "stepsDone" "I") ∈ lw_tbl := List.mem_of_getElem? (i := 123) (by decide +kernel)
theorem m_124 : (Jvm.Cond.fieldLinkNest "DrawShares" (146 : Nat) "DrawShares$Told" "stepsDone" "I" "DrawShares") ∈ lw_tbl := List.mem_of_getElem? (i := 124) (by decide +kernel)
theorem m_125 : (Jvm.Cond.fieldLinkNest "DrawShares" (106 : Nat) "DrawShares$Told" "workersLeft" "I" "DrawShares") ∈ lw_tbl := List.mem_of_getElem? (i := 125) (by decide +kernel)
theorem m_126 : (Jvm.Cond.laysFinal "DrawShares$Told" "DrawShares$Told" "values" "[I") ∈ lw_tbl := List.mem_of_getElem? (i := 126) (by decide +kernel)
theorem m_127 : (Jvm.Cond.soleField "DrawShares$Told" "values") ∈ lw_tbl := List.mem_of_getElem? (i := 127) (by decide +kernel)
theorem m_128 : (Jvm.Cond.laysFinal "DrawShares$Told" "DrawShares$Told" "begins" "[I") ∈ lw_tbl := List.mem_of_getElem? (i := 128) (by decide +kernel)
theorem m_129 : (Jvm.Cond.soleField "DrawShares$Told" "begins") ∈ lw_tbl := List.mem_of_getElem? (i := 129) (by decide +kernel)
theorem m_130 : (Jvm.Cond.laysFinal "DrawShares$Told" "DrawShares$Told" "actsCame" "[I") ∈ lw_tbl := List.mem_of_getElem? (i := 130) (by decide +kernel)
theorem m_131 : (Jvm.Cond.soleField "DrawShares$Told" "actsCame") ∈ lw_tbl := List.mem_of_getElem? (i := 131) (by decide +kernel)
theorem m_132 : (Jvm.Cond.lays "DrawShares$Told" "DrawShares$Told" "ready" "Z") ∈ lw_tbl := List.mem_of_getElem? (i := 132) (by decide +kernel)
theorem m_133 : (Jvm.Cond.soleField "DrawShares$Told" "ready") ∈ lw_tbl := List.mem_of_getElem? (i := 133) (by decide +kernel)
theorem m_134 : (Jvm.Cond.lays "DrawShares$Told" "DrawShares$Told" "sum" "J") ∈ lw_tbl := List.mem_of_getElem? (i := 134) (by decide +kernel)
theorem m_135 : (Jvm.Cond.soleField "DrawShares$Told" "sum") ∈ lw_tbl := List.mem_of_getElem? (i := 135) (by decide +kernel)
theorem m_136 : (Jvm.Cond.lays "DrawShares$Told" "DrawShares$Told" "joinedShares" "I") ∈ lw_tbl := List.mem_of_getElem? (i := 136) (by decide +kernel)
theorem m_137 : (Jvm.Cond.soleField "DrawShares$Told" "joinedShares") ∈ lw_tbl := List.mem_of_getElem? (i := 137) (by decide +kernel)
theorem m_138 : (Jvm.Cond.lays "DrawShares$Told" "DrawShares$Told" "stepsDone" "I") ∈ lw_tbl := List.mem_of_getElem? (i := 138) (by decide +kernel)
theorem m_139 : (Jvm.Cond.soleField "DrawShares$Told" "stepsDone") ∈ lw_tbl := List.mem_of_getElem? (i := 139) (by decide +kernel)
theorem m_140 : (Jvm.Cond.lays "DrawShares$Told" "DrawShares$Told" "workersLeft" "I") ∈ lw_tbl := List.mem_of_getElem? (i := 140) (by decide +kernel)
theorem m_141 : (Jvm.Cond.soleField "DrawShares$Told" "workersLeft") ∈ lw_tbl := List.mem_of_getElem? (i := 141) (by decide +kernel)
theorem m_142 : (Jvm.Cond.superclass "DrawShares$Told" "java/lang/Object") ∈ lw_tbl := List.mem_of_getElem? (i := 142) (by decide +kernel)
theorem m_143 : (Jvm.Cond.fieldLink "DrawShares" (23 : Nat) "DrawShares" "shares" "LDrawShares$Shares;") ∈ lw_tbl := List.mem_of_getElem? (i := 143) (by decide +kernel)
theorem m_144 : (Jvm.Cond.fieldLink "DrawShares" (30 : Nat) "DrawShares" "acts" "LDrawShares$Acts;") ∈ lw_tbl := List.mem_of_getElem? (i := 144) (by decide +kernel)
theorem m_145 : (Jvm.Cond.fieldLink "DrawShares" (37 : Nat) "DrawShares" "told" "LDrawShares$Told;") ∈ lw_tbl := List.mem_of_getElem? (i := 145) (by decide +kernel)
theorem m_146 : (Jvm.Cond.fieldLink "DrawShares" (41 : Nat) "DrawShares" "stopAhead" "I") ∈ lw_tbl := List.mem_of_getElem? (i := 146) (by decide +kernel)
theorem m_147 : (Jvm.Cond.fieldLink "DrawShares" (103 : Nat) "DrawShares" "goodRuns" "I") ∈ lw_tbl := List.mem_of_getElem? (i := 147) (by decide +kernel)
theorem m_148 : (Jvm.Cond.fieldLink "DrawShares" (100 : Nat) "DrawShares" "refusedRuns" "I") ∈ lw_tbl := List.mem_of_getElem? (i := 148) (by decide +kernel)
theorem m_149 : (Jvm.Cond.laysFinal "DrawShares" "DrawShares" "shares" "LDrawShares$Shares;") ∈ lw_tbl := List.mem_of_getElem? (i := 149) (by decide +kernel)
theorem m_150 : (Jvm.Cond.soleField "DrawShares" "shares") ∈ lw_tbl := List.mem_of_getElem? (i := 150) (by decide +kernel)
theorem m_151 : (Jvm.Cond.laysFinal "DrawShares" "DrawShares" "acts" "LDrawShares$Acts;") ∈ lw_tbl := List.mem_of_getElem? (i := 151) (by decide +kernel)
theorem m_152 : (Jvm.Cond.soleField "DrawShares" "acts") ∈ lw_tbl := List.mem_of_getElem? (i := 152) (by decide +kernel)
theorem m_153 : (Jvm.Cond.laysFinal "DrawShares" "DrawShares" "told" "LDrawShares$Told;") ∈ lw_tbl := List.mem_of_getElem? (i := 153) (by decide +kernel)
theorem m_154 : (Jvm.Cond.soleField "DrawShares" "told") ∈ lw_tbl := List.mem_of_getElem? (i := 154) (by decide +kernel)
theorem m_155 : (Jvm.Cond.lays "DrawShares" "DrawShares" "stopAhead" "I") ∈ lw_tbl := List.mem_of_getElem? (i := 155) (by decide +kernel)
theorem m_156 : (Jvm.Cond.soleField "DrawShares" "stopAhead") ∈ lw_tbl := List.mem_of_getElem? (i := 156) (by decide +kernel)
theorem m_157 : (Jvm.Cond.lays "DrawShares" "DrawShares" "goodRuns" "I") ∈ lw_tbl := List.mem_of_getElem? (i := 157) (by decide +kernel)
theorem m_158 : (Jvm.Cond.soleField "DrawShares" "goodRuns") ∈ lw_tbl := List.mem_of_getElem? (i := 158) (by decide +kernel)
theorem m_159 : (Jvm.Cond.lays "DrawShares" "DrawShares" "refusedRuns" "I") ∈ lw_tbl := List.mem_of_getElem? (i := 159) (by decide +kernel)
theorem m_160 : (Jvm.Cond.soleField "DrawShares" "refusedRuns") ∈ lw_tbl := List.mem_of_getElem? (i := 160) (by decide +kernel)
theorem m_161 : (Jvm.Cond.superclass "DrawShares" "java/lang/Object") ∈ lw_tbl := List.mem_of_getElem? (i := 161) (by decide +kernel)
theorem m_162 : (Jvm.Cond.methodLink "DrawSharesLaw" (61 : Nat) ({ cls := "DrawSharesLaw", name := "cell", desc := "([II)I" } : Jvm.MethodName)) ∈ lw_tbl := List.mem_of_getElem? (i := 162) (by decide +kernel)
theorem m_163 : (Jvm.Cond.static ({ cls := "DrawSharesLaw", name := "cell", desc := "([II)I" } : Jvm.MethodName)) ∈ lw_tbl := List.mem_of_getElem? (i := 163) (by decide +kernel)
theorem m_164 : (Jvm.Cond.code ({ cls := "DrawSharesLaw", name := "cell", desc := "([II)I" } : Jvm.MethodName) method_2_code (2 : Nat) (Option.some Jvm.ClassFile.FieldType.int)) ∈ lw_tbl := List.mem_of_getElem? (i := 164) (by decide +kernel)
theorem m_165 : (Jvm.Cond.methodLink "DrawSharesLaw" (73 : Nat) ({ cls := "DrawSharesLaw", name := "share", desc := "(LDrawShares;IIII[J)I" } : Jvm.MethodName)) ∈ lw_tbl := List.mem_of_getElem? (i := 165) (by decide +kernel)
theorem m_166 : (Jvm.Cond.static ({ cls := "DrawSharesLaw", name := "share", desc := "(LDrawShares;IIII[J)I" } : Jvm.MethodName)) ∈ lw_tbl := List.mem_of_getElem? (i := 166) (by decide +kernel)
theorem m_167 : (Jvm.Cond.codeWith ({ cls := "DrawSharesLaw", name := "share", desc := "(LDrawShares;IIII[J)I" } : Jvm.MethodName) method_3_code (7 : Nat) (Option.some Jvm.ClassFile.FieldType.int) [((0 : Nat), (14 : Nat), (17 : Nat), (13 : Nat)), ((0 : Nat), (14 : Nat), (21 : Nat), (15 : Nat))]) ∈ lw_tbl := List.mem_of_getElem? (i := 167) (by decide +kernel)
theorem m_168 : (Jvm.Cond.classLink "DrawSharesLaw" (13 : Nat) "java/lang/IndexOutOfBoundsException") ∈ lw_tbl := List.mem_of_getElem? (i := 168) (by decide +kernel)
theorem m_169 : (Jvm.Cond.classLink "DrawSharesLaw" (15 : Nat) "java/lang/IllegalArgumentException") ∈ lw_tbl := List.mem_of_getElem? (i := 169) (by decide +kernel)
theorem m_170 : (Jvm.Cond.methodLink "DrawSharesLaw" (7 : Nat) ({ cls := "DrawShares", name := "share", desc := "(IIII)I" } : Jvm.MethodName)) ∈ lw_tbl := List.mem_of_getElem? (i := 170) (by decide +kernel)
theorem m_171 : (Jvm.Cond.instanceMethod ({ cls := "DrawShares", name := "share", desc := "(IIII)I" } : Jvm.MethodName)) ∈ lw_tbl := List.mem_of_getElem? (i := 171) (by decide +kernel)
theorem m_172 : (Jvm.Cond.selects "DrawShares" ({ cls := "DrawShares", name := "share", desc := "(IIII)I" } : Jvm.MethodName) ({ cls := "DrawShares", name := "share", desc := "(IIII)I" } : Jvm.MethodName)) ∈ lw_tbl := List.mem_of_getElem? (i := 172) (by decide +kernel)
theorem m_173 : (Jvm.Cond.code ({ cls := "DrawShares", name := "share", desc := "(IIII)I" } : Jvm.MethodName) prog_1_method_2_code (6 : Nat) (Option.some Jvm.ClassFile.FieldType.int)) ∈ lw_tbl := List.mem_of_getElem? (i := 173) (by decide +kernel)
theorem m_174 : (Jvm.Cond.methodLink "DrawShares" (45 : Nat) ({ cls := "DrawShares", name := "needShare", desc := "(I)V" } : Jvm.MethodName)) ∈ lw_tbl := List.mem_of_getElem? (i := 174) (by decide +kernel)
theorem m_175 : (Jvm.Cond.privateMethod ({ cls := "DrawShares", name := "needShare", desc := "(I)V" } : Jvm.MethodName)) ∈ lw_tbl := List.mem_of_getElem? (i := 175) (by decide +kernel)
theorem m_176 : (Jvm.Cond.instanceMethod ({ cls := "DrawShares", name := "needShare", desc := "(I)V" } : Jvm.MethodName)) ∈ lw_tbl := List.mem_of_getElem? (i := 176) (by decide +kernel)
theorem m_177 : (Jvm.Cond.code ({ cls := "DrawShares", name := "needShare", desc := "(I)V" } : Jvm.MethodName) prog_1_method_15_code (2 : Nat) (Option.none : Option Jvm.ClassFile.FieldType)) ∈ lw_tbl := List.mem_of_getElem? (i := 177) (by decide +kernel)
theorem m_178 : (Jvm.Cond.classLink "DrawShares" (80 : Nat) "java/lang/IndexOutOfBoundsException") ∈ lw_tbl := List.mem_of_getElem? (i := 178) (by decide +kernel)
theorem m_179 : (Jvm.Cond.instantiable "java/lang/IndexOutOfBoundsException" (6 : Nat)) ∈ lw_tbl := List.mem_of_getElem? (i := 179) (by decide +kernel)
theorem m_180 : (Jvm.Cond.castable "java/lang/IndexOutOfBoundsException" "java/lang/IndexOutOfBoundsException") ∈ lw_tbl := List.mem_of_getElem? (i := 180) (by decide +kernel)
theorem m_181 : (Jvm.Cond.declares ({ cls := "java/lang/RuntimeException", name := "<init>", desc := "()V" } : Jvm.MethodName)) ∈ lw_tbl := List.mem_of_getElem? (i := 181) (by decide +kernel)
theorem m_182 : (Jvm.Cond.declares ({ cls := "java/lang/RuntimeException", name := "<init>", desc := "(Ljava/lang/String;)V" } : Jvm.MethodName)) ∈ lw_tbl := List.mem_of_getElem? (i := 182) (by decide +kernel)
theorem m_183 : (Jvm.Cond.declares ({ cls := "java/lang/Exception", name := "<init>", desc := "()V" } : Jvm.MethodName)) ∈ lw_tbl := List.mem_of_getElem? (i := 183) (by decide +kernel)
theorem m_184 : (Jvm.Cond.declares ({ cls := "java/lang/Exception", name := "<init>", desc := "(Ljava/lang/String;)V" } : Jvm.MethodName)) ∈ lw_tbl := List.mem_of_getElem? (i := 184) (by decide +kernel)
theorem m_185 : (Jvm.Cond.declares ({ cls := "java/lang/Throwable", name := "<init>", desc := "()V" } : Jvm.MethodName)) ∈ lw_tbl := List.mem_of_getElem? (i := 185) (by decide +kernel)
theorem m_186 : (Jvm.Cond.declares ({ cls := "java/lang/Throwable", name := "<init>", desc := "(Ljava/lang/String;)V" } : Jvm.MethodName)) ∈ lw_tbl := List.mem_of_getElem? (i := 186) (by decide +kernel)
theorem m_187 : (Jvm.Cond.selects "java/lang/IndexOutOfBoundsException" ({ cls := "java/lang/Throwable", name := "fillInStackTrace", desc := "(I)Ljava/lang/Throwable;" } : Jvm.MethodName) ({ cls := "java/lang/Throwable", name := "fillInStackTrace", desc := "(I)Ljava/lang/Throwable;" } : Jvm.MethodName)) ∈ lw_tbl := List.mem_of_getElem? (i := 187) (by decide +kernel)
theorem m_188 : (Jvm.Cond.selects "java/lang/IndexOutOfBoundsException" ({ cls := "java/lang/Throwable", name := "fillInStackTrace", desc := "()Ljava/lang/Throwable;" } : Jvm.MethodName) ({ cls := "java/lang/Throwable", name := "fillInStackTrace", desc := "()Ljava/lang/Throwable;" } : Jvm.MethodName)) ∈ lw_tbl := List.mem_of_getElem? (i := 188) (by decide +kernel)
theorem m_189 : (Jvm.Cond.lays "java/lang/IndexOutOfBoundsException" "java/lang/Throwable" "cause" "Ljava/lang/Throwable;") ∈ lw_tbl := List.mem_of_getElem? (i := 189) (by decide +kernel)
theorem m_190 : (Jvm.Cond.lays "java/lang/Throwable" "java/lang/Throwable" "cause" "Ljava/lang/Throwable;") ∈ lw_tbl := List.mem_of_getElem? (i := 190) (by decide +kernel)
theorem m_191 : (Jvm.Cond.lays "java/lang/IndexOutOfBoundsException" "java/lang/Throwable" "stackTrace" "[Ljava/lang/StackTraceElement;") ∈ lw_tbl := List.mem_of_getElem? (i := 191) (by decide +kernel)
theorem m_192 : (Jvm.Cond.lays "java/lang/Throwable" "java/lang/Throwable" "stackTrace" "[Ljava/lang/StackTraceElement;") ∈ lw_tbl := List.mem_of_getElem? (i := 192) (by decide +kernel)
theorem m_193 : (Jvm.Cond.lays "java/lang/IndexOutOfBoundsException" "java/lang/Throwable" "suppressedExceptions" "Ljava/util/List;") ∈ lw_tbl := List.mem_of_getElem? (i := 193) (by decide +kernel)
theorem m_194 : (Jvm.Cond.lays "java/lang/Throwable" "java/lang/Throwable" "suppressedExceptions" "Ljava/util/List;") ∈ lw_tbl := List.mem_of_getElem? (i := 194) (by decide +kernel)
theorem m_195 : (Jvm.Cond.lays "java/lang/IndexOutOfBoundsException" "java/lang/Throwable" "detailMessage" "Ljava/lang/String;") ∈ lw_tbl := List.mem_of_getElem? (i := 195) (by decide +kernel)
theorem m_196 : (Jvm.Cond.lays "java/lang/Throwable" "java/lang/Throwable" "detailMessage" "Ljava/lang/String;") ∈ lw_tbl := List.mem_of_getElem? (i := 196) (by decide +kernel)
theorem m_197 : (Jvm.Cond.lays "java/lang/IndexOutOfBoundsException" "java/lang/Throwable" "backtrace" "Ljava/lang/Object;") ∈ lw_tbl := List.mem_of_getElem? (i := 197) (by decide +kernel)
theorem m_198 : (Jvm.Cond.lays "java/lang/Throwable" "java/lang/Throwable" "backtrace" "Ljava/lang/Object;") ∈ lw_tbl := List.mem_of_getElem? (i := 198) (by decide +kernel)
theorem m_199 : (Jvm.Cond.fieldLink "java/lang/Throwable" (198 : Nat) "java/lang/Throwable" "backtrace" "Ljava/lang/Object;") ∈ lw_tbl := List.mem_of_getElem? (i := 199) (by decide +kernel)
theorem m_200 : (Jvm.Cond.superclass "java/lang/Throwable" "java/lang/Object") ∈ lw_tbl := List.mem_of_getElem? (i := 200) (by decide +kernel)
theorem m_201 : (Jvm.Cond.instanceMethod ({ cls := "java/lang/Throwable", name := "<init>", desc := "()V" } : Jvm.MethodName)) ∈ lw_tbl := List.mem_of_getElem? (i := 201) (by decide +kernel)
theorem m_202 : (Jvm.Cond.code ({ cls := "java/lang/Throwable", name := "<init>", desc := "()V" } : Jvm.MethodName) prog_14_method_1_code (1 : Nat) (Option.none : Option Jvm.ClassFile.FieldType)) ∈ lw_tbl := List.mem_of_getElem? (i := 202) (by decide +kernel)
theorem m_203 : (Jvm.Cond.methodLink "java/lang/Throwable" (1 : Nat) ({ cls := "java/lang/Object", name := "<init>", desc := "()V" } : Jvm.MethodName)) ∈ lw_tbl := List.mem_of_getElem? (i := 203) (by decide +kernel)
theorem m_204 : (Jvm.Cond.fieldLink "java/lang/Throwable" (13 : Nat) "java/lang/Throwable" "UNASSIGNED_STACK" "[Ljava/lang/StackTraceElement;") ∈ lw_tbl := List.mem_of_getElem? (i := 204) (by decide +kernel)
theorem m_205 : (Jvm.Cond.laysStatic "java/lang/Throwable" "UNASSIGNED_STACK" "[Ljava/lang/StackTraceElement;") ∈ lw_tbl := List.mem_of_getElem? (i := 205) (by decide +kernel)
theorem m_206 : (Jvm.Cond.fieldLink "java/lang/Throwable" (20 : Nat) "java/lang/Throwable" "SUPPRESSED_SENTINEL" "Ljava/util/List;") ∈ lw_tbl := List.mem_of_getElem? (i := 206) (by decide +kernel)
theorem m_207 : (Jvm.Cond.laysStatic "java/lang/Throwable" "SUPPRESSED_SENTINEL" "Ljava/util/List;") ∈ lw_tbl := List.mem_of_getElem? (i := 207) (by decide +kernel)
theorem m_208 : (Jvm.Cond.methodLink "java/lang/Throwable" (27 : Nat) ({ cls := "java/lang/Throwable", name := "fillInStackTrace", desc := "()Ljava/lang/Throwable;" } : Jvm.MethodName)) ∈ lw_tbl := List.mem_of_getElem? (i := 208) (by decide +kernel)
theorem m_209 : (Jvm.Cond.instanceMethod ({ cls := "java/lang/Throwable", name := "fillInStackTrace", desc := "()Ljava/lang/Throwable;" } : Jvm.MethodName)) ∈ lw_tbl := List.mem_of_getElem? (i := 209) (by decide +kernel)
theorem m_210 : (Jvm.Cond.sameMethod "java/lang/Throwable" "java/lang/Throwable" "fillInStackTrace" "()Ljava/lang/Throwable;") ∈ lw_tbl := List.mem_of_getElem? (i := 210) (by decide +kernel)
theorem m_211 : (Jvm.Cond.selects "java/lang/IllegalArgumentException" ({ cls := "java/lang/Throwable", name := "fillInStackTrace", desc := "()Ljava/lang/Throwable;" } : Jvm.MethodName) ({ cls := "java/lang/Throwable", name := "fillInStackTrace", desc := "()Ljava/lang/Throwable;" } : Jvm.MethodName)) ∈ lw_tbl := List.mem_of_getElem? (i := 211) (by decide +kernel)
theorem m_212 : (Jvm.Cond.selects "java/lang/IllegalStateException" ({ cls := "java/lang/Throwable", name := "fillInStackTrace", desc := "()Ljava/lang/Throwable;" } : Jvm.MethodName) ({ cls := "java/lang/Throwable", name := "fillInStackTrace", desc := "()Ljava/lang/Throwable;" } : Jvm.MethodName)) ∈ lw_tbl := List.mem_of_getElem? (i := 212) (by decide +kernel)
theorem m_213 : (Jvm.Cond.codeSync ({ cls := "java/lang/Throwable", name := "fillInStackTrace", desc := "()Ljava/lang/Throwable;" } : Jvm.MethodName) prog_14_method_18_code (1 : Nat) (Option.some (Jvm.ClassFile.FieldType.object "java/lang/Throwable"))) ∈ lw_tbl := List.mem_of_getElem? (i := 213) (by decide +kernel)
theorem m_214 : (Jvm.Cond.methodLink "java/lang/Throwable" (202 : Nat) ({ cls := "java/lang/Throwable", name := "fillInStackTrace", desc := "(I)Ljava/lang/Throwable;" } : Jvm.MethodName)) ∈ lw_tbl := List.mem_of_getElem? (i := 214) (by decide +kernel)
theorem m_215 : (Jvm.Cond.privateMethod ({ cls := "java/lang/Throwable", name := "fillInStackTrace", desc := "(I)Ljava/lang/Throwable;" } : Jvm.MethodName)) ∈ lw_tbl := List.mem_of_getElem? (i := 215) (by decide +kernel)
theorem m_216 : (Jvm.Cond.instanceMethod ({ cls := "java/lang/Throwable", name := "fillInStackTrace", desc := "(I)Ljava/lang/Throwable;" } : Jvm.MethodName)) ∈ lw_tbl := List.mem_of_getElem? (i := 216) (by decide +kernel)
theorem m_217 : (Jvm.Cond.instantiable "java/lang/Throwable" (6 : Nat)) ∈ lw_tbl := List.mem_of_getElem? (i := 217) (by decide +kernel)
theorem m_218 : (Jvm.Cond.native ({ cls := "java/lang/Throwable", name := "fillInStackTrace", desc := "(I)Ljava/lang/Throwable;" } : Jvm.MethodName)) ∈ lw_tbl := List.mem_of_getElem? (i := 218) (by decide +kernel)
theorem m_219 : (Jvm.Cond.stringRef "DrawShares" (151 : Nat) "there is no such share") ∈ lw_tbl := List.mem_of_getElem? (i := 219) (by decide +kernel)
theorem m_220 : (Jvm.Cond.methodLink "DrawShares" (84 : Nat) ({ cls := "java/lang/IndexOutOfBoundsException", name := "<init>", desc := "(Ljava/lang/String;)V" } : Jvm.MethodName)) ∈ lw_tbl := List.mem_of_getElem? (i := 220) (by decide +kernel)
theorem m_221 : (Jvm.Cond.instanceMethod ({ cls := "java/lang/IndexOutOfBoundsException", name := "<init>", desc := "(Ljava/lang/String;)V" } : Jvm.MethodName)) ∈ lw_tbl := List.mem_of_getElem? (i := 221) (by decide +kernel)
theorem m_222 : (Jvm.Cond.code ({ cls := "java/lang/IndexOutOfBoundsException", name := "<init>", desc := "(Ljava/lang/String;)V" } : Jvm.MethodName) prog_10_method_2_code (2 : Nat) (Option.none : Option Jvm.ClassFile.FieldType)) ∈ lw_tbl := List.mem_of_getElem? (i := 222) (by decide +kernel)
theorem m_223 : (Jvm.Cond.methodLink "java/lang/IndexOutOfBoundsException" (7 : Nat) ({ cls := "java/lang/RuntimeException", name := "<init>", desc := "(Ljava/lang/String;)V" } : Jvm.MethodName)) ∈ lw_tbl := List.mem_of_getElem? (i := 223) (by decide +kernel)
theorem m_224 : (Jvm.Cond.instanceMethod ({ cls := "java/lang/RuntimeException", name := "<init>", desc := "(Ljava/lang/String;)V" } : Jvm.MethodName)) ∈ lw_tbl := List.mem_of_getElem? (i := 224) (by decide +kernel)
theorem m_225 : (Jvm.Cond.code ({ cls := "java/lang/RuntimeException", name := "<init>", desc := "(Ljava/lang/String;)V" } : Jvm.MethodName) prog_12_method_2_code (2 : Nat) (Option.none : Option Jvm.ClassFile.FieldType)) ∈ lw_tbl := List.mem_of_getElem? (i := 225) (by decide +kernel)
theorem m_226 : (Jvm.Cond.methodLink "java/lang/RuntimeException" (7 : Nat) ({ cls := "java/lang/Exception", name := "<init>", desc := "(Ljava/lang/String;)V" } : Jvm.MethodName)) ∈ lw_tbl := List.mem_of_getElem? (i := 226) (by decide +kernel)
theorem m_227 : (Jvm.Cond.instanceMethod ({ cls := "java/lang/Exception", name := "<init>", desc := "(Ljava/lang/String;)V" } : Jvm.MethodName)) ∈ lw_tbl := List.mem_of_getElem? (i := 227) (by decide +kernel)
theorem m_228 : (Jvm.Cond.code ({ cls := "java/lang/Exception", name := "<init>", desc := "(Ljava/lang/String;)V" } : Jvm.MethodName) prog_7_method_2_code (2 : Nat) (Option.none : Option Jvm.ClassFile.FieldType)) ∈ lw_tbl := List.mem_of_getElem? (i := 228) (by decide +kernel)
theorem m_229 : (Jvm.Cond.methodLink "java/lang/Exception" (7 : Nat) ({ cls := "java/lang/Throwable", name := "<init>", desc := "(Ljava/lang/String;)V" } : Jvm.MethodName)) ∈ lw_tbl := List.mem_of_getElem? (i := 229) (by decide +kernel)
theorem m_230 : (Jvm.Cond.instanceMethod ({ cls := "java/lang/Throwable", name := "<init>", desc := "(Ljava/lang/String;)V" } : Jvm.MethodName)) ∈ lw_tbl := List.mem_of_getElem? (i := 230) (by decide +kernel)
theorem m_231 : (Jvm.Cond.code ({ cls := "java/lang/Throwable", name := "<init>", desc := "(Ljava/lang/String;)V" } : Jvm.MethodName) prog_14_method_2_code (2 : Nat) (Option.none : Option Jvm.ClassFile.FieldType)) ∈ lw_tbl := List.mem_of_getElem? (i := 231) (by decide +kernel)
theorem m_232 : (Jvm.Cond.fieldLink "java/lang/Throwable" (198 : Nat) "java/lang/Throwable" "backtrace" "Ljava/lang/Object;") ∈ lw_tbl := List.mem_of_getElem? (i := 232) (by decide +kernel)
theorem m_233 : (Jvm.Cond.fieldLink "java/lang/Throwable" (31 : Nat) "java/lang/Throwable" "detailMessage" "Ljava/lang/String;") ∈ lw_tbl := List.mem_of_getElem? (i := 233) (by decide +kernel)
theorem m_234 : (Jvm.Cond.fieldLink "java/lang/Throwable" (7 : Nat) "java/lang/Throwable" "cause" "Ljava/lang/Throwable;") ∈ lw_tbl := List.mem_of_getElem? (i := 234) (by decide +kernel)
theorem m_235 : (Jvm.Cond.fieldLink "java/lang/Throwable" (17 : Nat) "java/lang/Throwable" "stackTrace" "[Ljava/lang/StackTraceElement;") ∈ lw_tbl := List.mem_of_getElem? (i := 235) (by decide +kernel)
theorem m_236 : (Jvm.Cond.fieldLink "java/lang/Throwable" (24 : Nat) "java/lang/Throwable" "suppressedExceptions" "Ljava/util/List;") ∈ lw_tbl := List.mem_of_getElem? (i := 236) (by decide +kernel)
theorem m_237 : (Jvm.Cond.soleField "java/lang/Throwable" "backtrace") ∈ lw_tbl := List.mem_of_getElem? (i := 237) (by decide +kernel)
theorem m_238 : (Jvm.Cond.soleField "java/lang/Throwable" "detailMessage") ∈ lw_tbl := List.mem_of_getElem? (i := 238) (by decide +kernel)
theorem m_239 : (Jvm.Cond.soleField "java/lang/Throwable" "cause") ∈ lw_tbl := List.mem_of_getElem? (i := 239) (by decide +kernel)
theorem m_240 : (Jvm.Cond.soleField "java/lang/Throwable" "stackTrace") ∈ lw_tbl := List.mem_of_getElem? (i := 240) (by decide +kernel)
theorem m_241 : (Jvm.Cond.lays "java/lang/IndexOutOfBoundsException" "java/lang/Throwable" "depth" "I") ∈ lw_tbl := List.mem_of_getElem? (i := 241) (by decide +kernel)
theorem m_242 : (Jvm.Cond.soleField "java/lang/Throwable" "depth") ∈ lw_tbl := List.mem_of_getElem? (i := 242) (by decide +kernel)
theorem m_243 : (Jvm.Cond.soleField "java/lang/Throwable" "suppressedExceptions") ∈ lw_tbl := List.mem_of_getElem? (i := 243) (by decide +kernel)
theorem m_244 : (Jvm.Cond.superclass "java/lang/IndexOutOfBoundsException" "java/lang/RuntimeException") ∈ lw_tbl := List.mem_of_getElem? (i := 244) (by decide +kernel)
theorem m_245 : (Jvm.Cond.arrayClass Jvm.ClassFile.FieldType.byte) ∈ lw_tbl := List.mem_of_getElem? (i := 245) (by decide +kernel)
theorem m_246 : (Jvm.Cond.classLink "DrawShares" (48 : Nat) "java/lang/IllegalArgumentException") ∈ lw_tbl := List.mem_of_getElem? (i := 246) (by decide +kernel)
theorem m_247 : (Jvm.Cond.instantiable "java/lang/IllegalArgumentException" (6 : Nat)) ∈ lw_tbl := List.mem_of_getElem? (i := 247) (by decide +kernel)
theorem m_248 : (Jvm.Cond.castable "java/lang/IllegalArgumentException" "java/lang/IllegalArgumentException") ∈ lw_tbl := List.mem_of_getElem? (i := 248) (by decide +kernel)
theorem m_249 : (Jvm.Cond.selects "java/lang/IllegalArgumentException" ({ cls := "java/lang/Throwable", name := "fillInStackTrace", desc := "(I)Ljava/lang/Throwable;" } : Jvm.MethodName) ({ cls := "java/lang/Throwable", name := "fillInStackTrace", desc := "(I)Ljava/lang/Throwable;" } : Jvm.MethodName)) ∈ lw_tbl := List.mem_of_getElem? (i := 249) (by decide +kernel)
theorem m_250 : (Jvm.Cond.lays "java/lang/IllegalArgumentException" "java/lang/Throwable" "cause" "Ljava/lang/Throwable;") ∈ lw_tbl := List.mem_of_getElem? (i := 250) (by decide +kernel)
theorem m_251 : (Jvm.Cond.lays "java/lang/IllegalArgumentException" "java/lang/Throwable" "stackTrace" "[Ljava/lang/StackTraceElement;") ∈ lw_tbl := List.mem_of_getElem? (i := 251) (by decide +kernel)
theorem m_252 : (Jvm.Cond.lays "java/lang/IllegalArgumentException" "java/lang/Throwable" "suppressedExceptions" "Ljava/util/List;") ∈ lw_tbl := List.mem_of_getElem? (i := 252) (by decide +kernel)
theorem m_253 : (Jvm.Cond.lays "java/lang/IllegalArgumentException" "java/lang/Throwable" "detailMessage" "Ljava/lang/String;") ∈ lw_tbl := List.mem_of_getElem? (i := 253) (by decide +kernel)
theorem m_254 : (Jvm.Cond.lays "java/lang/IllegalArgumentException" "java/lang/Throwable" "backtrace" "Ljava/lang/Object;") ∈ lw_tbl := List.mem_of_getElem? (i := 254) (by decide +kernel)
theorem m_255 : (Jvm.Cond.stringRef "DrawShares" (50 : Nat) "work is not 1 .. 30") ∈ lw_tbl := List.mem_of_getElem? (i := 255) (by decide +kernel)
theorem m_256 : (Jvm.Cond.methodLink "DrawShares" (52 : Nat) ({ cls := "java/lang/IllegalArgumentException", name := "<init>", desc := "(Ljava/lang/String;)V" } : Jvm.MethodName)) ∈ lw_tbl := List.mem_of_getElem? (i := 256) (by decide +kernel)
theorem m_257 : (Jvm.Cond.instanceMethod ({ cls := "java/lang/IllegalArgumentException", name := "<init>", desc := "(Ljava/lang/String;)V" } : Jvm.MethodName)) ∈ lw_tbl := List.mem_of_getElem? (i := 257) (by decide +kernel)
theorem m_258 : (Jvm.Cond.code ({ cls := "java/lang/IllegalArgumentException", name := "<init>", desc := "(Ljava/lang/String;)V" } : Jvm.MethodName) prog_8_method_2_code (2 : Nat) (Option.none : Option Jvm.ClassFile.FieldType)) ∈ lw_tbl := List.mem_of_getElem? (i := 258) (by decide +kernel)
theorem m_259 : (Jvm.Cond.methodLink "java/lang/IllegalArgumentException" (7 : Nat) ({ cls := "java/lang/RuntimeException", name := "<init>", desc := "(Ljava/lang/String;)V" } : Jvm.MethodName)) ∈ lw_tbl := List.mem_of_getElem? (i := 259) (by decide +kernel)
theorem m_260 : (Jvm.Cond.lays "java/lang/IllegalArgumentException" "java/lang/Throwable" "depth" "I") ∈ lw_tbl := List.mem_of_getElem? (i := 260) (by decide +kernel)
theorem m_261 : (Jvm.Cond.superclass "java/lang/IllegalArgumentException" "java/lang/RuntimeException") ∈ lw_tbl := List.mem_of_getElem? (i := 261) (by decide +kernel)
theorem m_262 : (Jvm.Cond.stringRef "DrawShares" (55 : Nat) "bits are not 0 .. 8") ∈ lw_tbl := List.mem_of_getElem? (i := 262) (by decide +kernel)
theorem m_263 : (Jvm.Cond.methodLink "DrawSharesLaw" (80 : Nat) ({ cls := "DrawSharesLaw", name := "fails", desc := "(LDrawShares;III[J)I" } : Jvm.MethodName)) ∈ lw_tbl := List.mem_of_getElem? (i := 263) (by decide +kernel)
theorem m_264 : (Jvm.Cond.static ({ cls := "DrawSharesLaw", name := "fails", desc := "(LDrawShares;III[J)I" } : Jvm.MethodName)) ∈ lw_tbl := List.mem_of_getElem? (i := 264) (by decide +kernel)
theorem m_265 : (Jvm.Cond.codeWith ({ cls := "DrawSharesLaw", name := "fails", desc := "(LDrawShares;III[J)I" } : Jvm.MethodName) method_4_code (6 : Nat) (Option.some Jvm.ClassFile.FieldType.int) [((0 : Nat), (12 : Nat), (15 : Nat), (13 : Nat)), ((0 : Nat), (12 : Nat), (19 : Nat), (15 : Nat))]) ∈ lw_tbl := List.mem_of_getElem? (i := 265) (by decide +kernel)
theorem m_266 : (Jvm.Cond.methodLink "DrawSharesLaw" (17 : Nat) ({ cls := "DrawShares", name := "fails", desc := "(III)I" } : Jvm.MethodName)) ∈ lw_tbl := List.mem_of_getElem? (i := 266) (by decide +kernel)
theorem m_267 : (Jvm.Cond.instanceMethod ({ cls := "DrawShares", name := "fails", desc := "(III)I" } : Jvm.MethodName)) ∈ lw_tbl := List.mem_of_getElem? (i := 267) (by decide +kernel)
theorem m_268 : (Jvm.Cond.selects "DrawShares" ({ cls := "DrawShares", name := "fails", desc := "(III)I" } : Jvm.MethodName) ({ cls := "DrawShares", name := "fails", desc := "(III)I" } : Jvm.MethodName)) ∈ lw_tbl := List.mem_of_getElem? (i := 268) (by decide +kernel)
theorem m_269 : (Jvm.Cond.code ({ cls := "DrawShares", name := "fails", desc := "(III)I" } : Jvm.MethodName) prog_1_method_3_code (5 : Nat) (Option.some Jvm.ClassFile.FieldType.int)) ∈ lw_tbl := List.mem_of_getElem? (i := 269) (by decide +kernel)
theorem m_270 : (Jvm.Cond.stringRef "DrawShares" (67 : Nat) "step is not 1 .. 30") ∈ lw_tbl := List.mem_of_getElem? (i := 270) (by decide +kernel)
theorem m_271 : (Jvm.Cond.stringRef "DrawShares" (69 : Nat) "times is not 0 .. 4") ∈ lw_tbl := List.mem_of_getElem? (i := 271) (by decide +kernel)
theorem m_272 : (Jvm.Cond.methodLink "DrawSharesLaw" (84 : Nat) ({ cls := "DrawSharesLaw", name := "act", desc := "(LDrawShares;II[J)I" } : Jvm.MethodName)) ∈ lw_tbl := List.mem_of_getElem? (i := 272) (by decide +kernel)
theorem m_273 : (Jvm.Cond.static ({ cls := "DrawSharesLaw", name := "act", desc := "(LDrawShares;II[J)I" } : Jvm.MethodName)) ∈ lw_tbl := List.mem_of_getElem? (i := 273) (by decide +kernel)
theorem m_274 : (Jvm.Cond.codeWith ({ cls := "DrawSharesLaw", name := "act", desc := "(LDrawShares;II[J)I" } : Jvm.MethodName) method_5_code (5 : Nat) (Option.some Jvm.ClassFile.FieldType.int) [((0 : Nat), (10 : Nat), (13 : Nat), (13 : Nat)), ((0 : Nat), (10 : Nat), (17 : Nat), (25 : Nat))]) ∈ lw_tbl := List.mem_of_getElem? (i := 274) (by decide +kernel)
theorem m_275 : (Jvm.Cond.classLink "DrawSharesLaw" (25 : Nat) "java/lang/IllegalStateException") ∈ lw_tbl := List.mem_of_getElem? (i := 275) (by decide +kernel)
theorem m_276 : (Jvm.Cond.methodLink "DrawSharesLaw" (21 : Nat) ({ cls := "DrawShares", name := "act", desc := "(II)I" } : Jvm.MethodName)) ∈ lw_tbl := List.mem_of_getElem? (i := 276) (by decide +kernel)
theorem m_277 : (Jvm.Cond.instanceMethod ({ cls := "DrawShares", name := "act", desc := "(II)I" } : Jvm.MethodName)) ∈ lw_tbl := List.mem_of_getElem? (i := 277) (by decide +kernel)
theorem m_278 : (Jvm.Cond.selects "DrawShares" ({ cls := "DrawShares", name := "act", desc := "(II)I" } : Jvm.MethodName) ({ cls := "DrawShares", name := "act", desc := "(II)I" } : Jvm.MethodName)) ∈ lw_tbl := List.mem_of_getElem? (i := 278) (by decide +kernel)
theorem m_279 : (Jvm.Cond.code ({ cls := "DrawShares", name := "act", desc := "(II)I" } : Jvm.MethodName) prog_1_method_4_code (3 : Nat) (Option.some Jvm.ClassFile.FieldType.int)) ∈ lw_tbl := List.mem_of_getElem? (i := 279) (by decide +kernel)
theorem m_280 : (Jvm.Cond.stringRef "DrawShares" (82 : Nat) "there is no such rank") ∈ lw_tbl := List.mem_of_getElem? (i := 280) (by decide +kernel)
theorem m_281 : (Jvm.Cond.classLink "DrawShares" (86 : Nat) "java/lang/IllegalStateException") ∈ lw_tbl := List.mem_of_getElem? (i := 281) (by decide +kernel)
theorem m_282 : (Jvm.Cond.instantiable "java/lang/IllegalStateException" (6 : Nat)) ∈ lw_tbl := List.mem_of_getElem? (i := 282) (by decide +kernel)
theorem m_283 : (Jvm.Cond.castable "java/lang/IllegalStateException" "java/lang/IllegalStateException") ∈ lw_tbl := List.mem_of_getElem? (i := 283) (by decide +kernel)
theorem m_284 : (Jvm.Cond.selects "java/lang/IllegalStateException" ({ cls := "java/lang/Throwable", name := "fillInStackTrace", desc := "(I)Ljava/lang/Throwable;" } : Jvm.MethodName) ({ cls := "java/lang/Throwable", name := "fillInStackTrace", desc := "(I)Ljava/lang/Throwable;" } : Jvm.MethodName)) ∈ lw_tbl := List.mem_of_getElem? (i := 284) (by decide +kernel)
theorem m_285 : (Jvm.Cond.lays "java/lang/IllegalStateException" "java/lang/Throwable" "cause" "Ljava/lang/Throwable;") ∈ lw_tbl := List.mem_of_getElem? (i := 285) (by decide +kernel)
theorem m_286 : (Jvm.Cond.lays "java/lang/IllegalStateException" "java/lang/Throwable" "stackTrace" "[Ljava/lang/StackTraceElement;") ∈ lw_tbl := List.mem_of_getElem? (i := 286) (by decide +kernel)
theorem m_287 : (Jvm.Cond.lays "java/lang/IllegalStateException" "java/lang/Throwable" "suppressedExceptions" "Ljava/util/List;") ∈ lw_tbl := List.mem_of_getElem? (i := 287) (by decide +kernel)
theorem m_288 : (Jvm.Cond.lays "java/lang/IllegalStateException" "java/lang/Throwable" "detailMessage" "Ljava/lang/String;") ∈ lw_tbl := List.mem_of_getElem? (i := 288) (by decide +kernel)
theorem m_289 : (Jvm.Cond.lays "java/lang/IllegalStateException" "java/lang/Throwable" "backtrace" "Ljava/lang/Object;") ∈ lw_tbl := List.mem_of_getElem? (i := 289) (by decide +kernel)
theorem m_290 : (Jvm.Cond.stringRef "DrawShares" (88 : Nat) "there are 24 acts") ∈ lw_tbl := List.mem_of_getElem? (i := 290) (by decide +kernel)
theorem m_291 : (Jvm.Cond.methodLink "DrawShares" (90 : Nat) ({ cls := "java/lang/IllegalStateException", name := "<init>", desc := "(Ljava/lang/String;)V" } : Jvm.MethodName)) ∈ lw_tbl := List.mem_of_getElem? (i := 291) (by decide +kernel)
theorem m_292 : (Jvm.Cond.instanceMethod ({ cls := "java/lang/IllegalStateException", name := "<init>", desc := "(Ljava/lang/String;)V" } : Jvm.MethodName)) ∈ lw_tbl := List.mem_of_getElem? (i := 292) (by decide +kernel)
theorem m_293 : (Jvm.Cond.code ({ cls := "java/lang/IllegalStateException", name := "<init>", desc := "(Ljava/lang/String;)V" } : Jvm.MethodName) prog_9_method_2_code (2 : Nat) (Option.none : Option Jvm.ClassFile.FieldType)) ∈ lw_tbl := List.mem_of_getElem? (i := 293) (by decide +kernel)
theorem m_294 : (Jvm.Cond.methodLink "java/lang/IllegalStateException" (7 : Nat) ({ cls := "java/lang/RuntimeException", name := "<init>", desc := "(Ljava/lang/String;)V" } : Jvm.MethodName)) ∈ lw_tbl := List.mem_of_getElem? (i := 294) (by decide +kernel)
theorem m_295 : (Jvm.Cond.lays "java/lang/IllegalStateException" "java/lang/Throwable" "depth" "I") ∈ lw_tbl := List.mem_of_getElem? (i := 295) (by decide +kernel)
theorem m_296 : (Jvm.Cond.superclass "java/lang/IllegalStateException" "java/lang/RuntimeException") ∈ lw_tbl := List.mem_of_getElem? (i := 296) (by decide +kernel)
theorem m_297 : (Jvm.Cond.methodLinkNest "DrawShares" (91 : Nat) ({ cls := "DrawShares$Acts", name := "append", desc := "(II)I" } : Jvm.MethodName) "DrawShares") ∈ lw_tbl := List.mem_of_getElem? (i := 297) (by decide +kernel)
theorem m_298 : (Jvm.Cond.privateMethod ({ cls := "DrawShares$Acts", name := "append", desc := "(II)I" } : Jvm.MethodName)) ∈ lw_tbl := List.mem_of_getElem? (i := 298) (by decide +kernel)
theorem m_299 : (Jvm.Cond.instanceMethod ({ cls := "DrawShares$Acts", name := "append", desc := "(II)I" } : Jvm.MethodName)) ∈ lw_tbl := List.mem_of_getElem? (i := 299) (by decide +kernel)
theorem m_300 : (Jvm.Cond.code ({ cls := "DrawShares$Acts", name := "append", desc := "(II)I" } : Jvm.MethodName) prog_2_method_2_code (4 : Nat) (Option.some Jvm.ClassFile.FieldType.int)) ∈ lw_tbl := List.mem_of_getElem? (i := 300) (by decide +kernel)
theorem m_301 : (Jvm.Cond.methodLink "DrawSharesLaw" (88 : Nat) ({ cls := "DrawSharesLaw", name := "stop", desc := "(LDrawShares;I[J)I" } : Jvm.MethodName)) ∈ lw_tbl := List.mem_of_getElem? (i := 301) (by decide +kernel)
theorem m_302 : (Jvm.Cond.static ({ cls := "DrawSharesLaw", name := "stop", desc := "(LDrawShares;I[J)I" } : Jvm.MethodName)) ∈ lw_tbl := List.mem_of_getElem? (i := 302) (by decide +kernel)
theorem m_303 : (Jvm.Cond.codeWith ({ cls := "DrawSharesLaw", name := "stop", desc := "(LDrawShares;I[J)I" } : Jvm.MethodName) method_6_code (4 : Nat) (Option.some Jvm.ClassFile.FieldType.int) [((0 : Nat), (9 : Nat), (12 : Nat), (13 : Nat))]) ∈ lw_tbl := List.mem_of_getElem? (i := 303) (by decide +kernel)
theorem m_304 : (Jvm.Cond.methodLink "DrawSharesLaw" (27 : Nat) ({ cls := "DrawShares", name := "stop", desc := "(I)I" } : Jvm.MethodName)) ∈ lw_tbl := List.mem_of_getElem? (i := 304) (by decide +kernel)
theorem m_305 : (Jvm.Cond.instanceMethod ({ cls := "DrawShares", name := "stop", desc := "(I)I" } : Jvm.MethodName)) ∈ lw_tbl := List.mem_of_getElem? (i := 305) (by decide +kernel)
theorem m_306 : (Jvm.Cond.selects "DrawShares" ({ cls := "DrawShares", name := "stop", desc := "(I)I" } : Jvm.MethodName) ({ cls := "DrawShares", name := "stop", desc := "(I)I" } : Jvm.MethodName)) ∈ lw_tbl := List.mem_of_getElem? (i := 306) (by decide +kernel)
theorem m_307 : (Jvm.Cond.code ({ cls := "DrawShares", name := "stop", desc := "(I)I" } : Jvm.MethodName) prog_1_method_5_code (3 : Nat) (Option.some Jvm.ClassFile.FieldType.int)) ∈ lw_tbl := List.mem_of_getElem? (i := 307) (by decide +kernel)
theorem m_308 : (Jvm.Cond.methodLink "DrawSharesLaw" (92 : Nat) ({ cls := "DrawSharesLaw", name := "run", desc := "(LDrawShares;II[J)I" } : Jvm.MethodName)) ∈ lw_tbl := List.mem_of_getElem? (i := 308) (by decide +kernel)
theorem m_309 : (Jvm.Cond.static ({ cls := "DrawSharesLaw", name := "run", desc := "(LDrawShares;II[J)I" } : Jvm.MethodName)) ∈ lw_tbl := List.mem_of_getElem? (i := 309) (by decide +kernel)
theorem m_310 : (Jvm.Cond.codeWith ({ cls := "DrawSharesLaw", name := "run", desc := "(LDrawShares;II[J)I" } : Jvm.MethodName) method_7_code (5 : Nat) (Option.some Jvm.ClassFile.FieldType.int) [((0 : Nat), (10 : Nat), (13 : Nat), (15 : Nat))]) ∈ lw_tbl := List.mem_of_getElem? (i := 310) (by decide +kernel)
theorem m_311 : (Jvm.Cond.methodLink "DrawSharesLaw" (31 : Nat) ({ cls := "DrawShares", name := "run", desc := "(II)I" } : Jvm.MethodName)) ∈ lw_tbl := List.mem_of_getElem? (i := 311) (by decide +kernel)
theorem m_312 : (Jvm.Cond.instanceMethod ({ cls := "DrawShares", name := "run", desc := "(II)I" } : Jvm.MethodName)) ∈ lw_tbl := List.mem_of_getElem? (i := 312) (by decide +kernel)
theorem m_313 : (Jvm.Cond.selects "DrawShares" ({ cls := "DrawShares", name := "run", desc := "(II)I" } : Jvm.MethodName) ({ cls := "DrawShares", name := "run", desc := "(II)I" } : Jvm.MethodName)) ∈ lw_tbl := List.mem_of_getElem? (i := 313) (by decide +kernel)
theorem m_314 : (Jvm.Cond.code ({ cls := "DrawShares", name := "run", desc := "(II)I" } : Jvm.MethodName) prog_1_method_6_code (4 : Nat) (Option.some Jvm.ClassFile.FieldType.int)) ∈ lw_tbl := List.mem_of_getElem? (i := 314) (by decide +kernel)
theorem m_315 : (Jvm.Cond.stringRef "DrawShares" (94 : Nat) "workers is not 1 .. 6") ∈ lw_tbl := List.mem_of_getElem? (i := 315) (by decide +kernel)
theorem m_316 : (Jvm.Cond.methodLinkNest "DrawShares" (96 : Nat) ({ cls := "DrawShares$Shares", name := "allLosses", desc := "()I" } : Jvm.MethodName) "DrawShares") ∈ lw_tbl := List.mem_of_getElem? (i := 316) (by decide +kernel)
theorem m_317 : (Jvm.Cond.privateMethod ({ cls := "DrawShares$Shares", name := "allLosses", desc := "()I" } : Jvm.MethodName)) ∈ lw_tbl := List.mem_of_getElem? (i := 317) (by decide +kernel)
theorem m_318 : (Jvm.Cond.instanceMethod ({ cls := "DrawShares$Shares", name := "allLosses", desc := "()I" } : Jvm.MethodName)) ∈ lw_tbl := List.mem_of_getElem? (i := 318) (by decide +kernel)
theorem m_319 : (Jvm.Cond.code ({ cls := "DrawShares$Shares", name := "allLosses", desc := "()I" } : Jvm.MethodName) prog_3_method_5_code (3 : Nat) (Option.some Jvm.ClassFile.FieldType.int)) ∈ lw_tbl := List.mem_of_getElem? (i := 319) (by decide +kernel)
theorem m_320 : (Jvm.Cond.methodLinkNest "DrawShares" (109 : Nat) ({ cls := "DrawShares$Told", name := "doAll", desc := "(LDrawShares$Shares;)V" } : Jvm.MethodName) "DrawShares") ∈ lw_tbl := List.mem_of_getElem? (i := 320) (by decide +kernel)
theorem m_321 : (Jvm.Cond.privateMethod ({ cls := "DrawShares$Told", name := "doAll", desc := "(LDrawShares$Shares;)V" } : Jvm.MethodName)) ∈ lw_tbl := List.mem_of_getElem? (i := 321) (by decide +kernel)
theorem m_322 : (Jvm.Cond.instanceMethod ({ cls := "DrawShares$Told", name := "doAll", desc := "(LDrawShares$Shares;)V" } : Jvm.MethodName)) ∈ lw_tbl := List.mem_of_getElem? (i := 322) (by decide +kernel)
theorem m_323 : (Jvm.Cond.code ({ cls := "DrawShares$Told", name := "doAll", desc := "(LDrawShares$Shares;)V" } : Jvm.MethodName) prog_4_method_2_code (3 : Nat) (Option.none : Option Jvm.ClassFile.FieldType)) ∈ lw_tbl := List.mem_of_getElem? (i := 323) (by decide +kernel)
theorem m_324 : (Jvm.Cond.methodLinkNest "DrawShares$Told" (34 : Nat) ({ cls := "DrawShares$Shares", name := "lastValue", desc := "(I)I" } : Jvm.MethodName) "DrawShares") ∈ lw_tbl := List.mem_of_getElem? (i := 324) (by decide +kernel)
theorem m_325 : (Jvm.Cond.privateMethod ({ cls := "DrawShares$Shares", name := "lastValue", desc := "(I)I" } : Jvm.MethodName)) ∈ lw_tbl := List.mem_of_getElem? (i := 325) (by decide +kernel)
theorem m_326 : (Jvm.Cond.instanceMethod ({ cls := "DrawShares$Shares", name := "lastValue", desc := "(I)I" } : Jvm.MethodName)) ∈ lw_tbl := List.mem_of_getElem? (i := 326) (by decide +kernel)
theorem m_327 : (Jvm.Cond.code ({ cls := "DrawShares$Shares", name := "lastValue", desc := "(I)I" } : Jvm.MethodName) prog_3_method_3_code (2 : Nat) (Option.some Jvm.ClassFile.FieldType.int)) ∈ lw_tbl := List.mem_of_getElem? (i := 327) (by decide +kernel)
theorem m_328 : (Jvm.Cond.methodLink "DrawShares$Shares" (41 : Nat) ({ cls := "DrawShares$Shares", name := "behind", desc := "(II)J" } : Jvm.MethodName)) ∈ lw_tbl := List.mem_of_getElem? (i := 328) (by decide +kernel)
theorem m_329 : (Jvm.Cond.privateMethod ({ cls := "DrawShares$Shares", name := "behind", desc := "(II)J" } : Jvm.MethodName)) ∈ lw_tbl := List.mem_of_getElem? (i := 329) (by decide +kernel)
theorem m_330 : (Jvm.Cond.instanceMethod ({ cls := "DrawShares$Shares", name := "behind", desc := "(II)J" } : Jvm.MethodName)) ∈ lw_tbl := List.mem_of_getElem? (i := 330) (by decide +kernel)
theorem m_331 : (Jvm.Cond.code ({ cls := "DrawShares$Shares", name := "behind", desc := "(II)J" } : Jvm.MethodName) prog_3_method_2_code (6 : Nat) (Option.some Jvm.ClassFile.FieldType.long)) ∈ lw_tbl := List.mem_of_getElem? (i := 331) (by decide +kernel)
theorem m_332 : (Jvm.Cond.constantLong "DrawShares$Shares" (35 : Nat) (2654435761 : Int64)) ∈ lw_tbl := List.mem_of_getElem? (i := 332) (by decide +kernel)
theorem m_333 : (Jvm.Cond.constantLong "DrawShares$Shares" (37 : Nat) (6364136223846793005 : Int64)) ∈ lw_tbl := List.mem_of_getElem? (i := 333) (by decide +kernel)
theorem m_334 : (Jvm.Cond.constantLong "DrawShares$Shares" (39 : Nat) (1442695040888963407 : Int64)) ∈ lw_tbl := List.mem_of_getElem? (i := 334) (by decide +kernel)
theorem m_335 : (Jvm.Cond.methodLinkNest "DrawShares$Told" (41 : Nat) ({ cls := "DrawShares$Shares", name := "stepsWithLosses", desc := "(I)I" } : Jvm.MethodName) "DrawShares") ∈ lw_tbl := List.mem_of_getElem? (i := 335) (by decide +kernel)
theorem m_336 : (Jvm.Cond.privateMethod ({ cls := "DrawShares$Shares", name := "stepsWithLosses", desc := "(I)I" } : Jvm.MethodName)) ∈ lw_tbl := List.mem_of_getElem? (i := 336) (by decide +kernel)
theorem m_337 : (Jvm.Cond.instanceMethod ({ cls := "DrawShares$Shares", name := "stepsWithLosses", desc := "(I)I" } : Jvm.MethodName)) ∈ lw_tbl := List.mem_of_getElem? (i := 337) (by decide +kernel)
theorem m_338 : (Jvm.Cond.code ({ cls := "DrawShares$Shares", name := "stepsWithLosses", desc := "(I)I" } : Jvm.MethodName) prog_3_method_6_code (2 : Nat) (Option.some Jvm.ClassFile.FieldType.int)) ∈ lw_tbl := List.mem_of_getElem? (i := 338) (by decide +kernel)
theorem m_339 : (Jvm.Cond.methodLink "DrawShares$Shares" (45 : Nat) ({ cls := "java/lang/Math", name := "min", desc := "(II)I" } : Jvm.MethodName)) ∈ lw_tbl := List.mem_of_getElem? (i := 339) (by decide +kernel)
theorem m_340 : (Jvm.Cond.methodLinkNest "DrawShares" (113 : Nat) ({ cls := "DrawShares$Told", name := "joinAll", desc := "(LDrawShares$Shares;LDrawShares$Acts;I)I" } : Jvm.MethodName) "DrawShares") ∈ lw_tbl := List.mem_of_getElem? (i := 340) (by decide +kernel)
theorem m_341 : (Jvm.Cond.privateMethod ({ cls := "DrawShares$Told", name := "joinAll", desc := "(LDrawShares$Shares;LDrawShares$Acts;I)I" } : Jvm.MethodName)) ∈ lw_tbl := List.mem_of_getElem? (i := 341) (by decide +kernel)
theorem m_342 : (Jvm.Cond.instanceMethod ({ cls := "DrawShares$Told", name := "joinAll", desc := "(LDrawShares$Shares;LDrawShares$Acts;I)I" } : Jvm.MethodName)) ∈ lw_tbl := List.mem_of_getElem? (i := 342) (by decide +kernel)
theorem m_343 : (Jvm.Cond.code ({ cls := "DrawShares$Told", name := "joinAll", desc := "(LDrawShares$Shares;LDrawShares$Acts;I)I" } : Jvm.MethodName) prog_4_method_3_code (5 : Nat) (Option.some Jvm.ClassFile.FieldType.int)) ∈ lw_tbl := List.mem_of_getElem? (i := 343) (by decide +kernel)
theorem m_344 : (Jvm.Cond.methodLink "DrawShares$Told" (51 : Nat) ({ cls := "java/util/Arrays", name := "fill", desc := "([II)V" } : Jvm.MethodName)) ∈ lw_tbl := List.mem_of_getElem? (i := 344) (by decide +kernel)
theorem m_345 : (Jvm.Cond.methodLink "DrawShares$Told" (57 : Nat) ({ cls := "DrawShares$Told", name := "letIn", desc := "(LDrawShares$Acts;I)V" } : Jvm.MethodName)) ∈ lw_tbl := List.mem_of_getElem? (i := 345) (by decide +kernel)
theorem m_346 : (Jvm.Cond.privateMethod ({ cls := "DrawShares$Told", name := "letIn", desc := "(LDrawShares$Acts;I)V" } : Jvm.MethodName)) ∈ lw_tbl := List.mem_of_getElem? (i := 346) (by decide +kernel)
theorem m_347 : (Jvm.Cond.instanceMethod ({ cls := "DrawShares$Told", name := "letIn", desc := "(LDrawShares$Acts;I)V" } : Jvm.MethodName)) ∈ lw_tbl := List.mem_of_getElem? (i := 347) (by decide +kernel)
theorem m_348 : (Jvm.Cond.code ({ cls := "DrawShares$Told", name := "letIn", desc := "(LDrawShares$Acts;I)V" } : Jvm.MethodName) prog_4_method_4_code (4 : Nat) (Option.none : Option Jvm.ClassFile.FieldType)) ∈ lw_tbl := List.mem_of_getElem? (i := 348) (by decide +kernel)
theorem m_349 : (Jvm.Cond.constantLong "DrawShares$Told" (73 : Nat) (31 : Int64)) ∈ lw_tbl := List.mem_of_getElem? (i := 349) (by decide +kernel)
theorem m_350 : (Jvm.Cond.constantLong "DrawShares$Told" (61 : Nat) (1000003 : Int64)) ∈ lw_tbl := List.mem_of_getElem? (i := 350) (by decide +kernel)
theorem m_351 : (Jvm.Cond.methodLinkNest "DrawShares$Told" (63 : Nat) ({ cls := "DrawShares$Shares", name := "settles", desc := "(II)Z" } : Jvm.MethodName) "DrawShares") ∈ lw_tbl := List.mem_of_getElem? (i := 351) (by decide +kernel)
theorem m_352 : (Jvm.Cond.privateMethod ({ cls := "DrawShares$Shares", name := "settles", desc := "(II)Z" } : Jvm.MethodName)) ∈ lw_tbl := List.mem_of_getElem? (i := 352) (by decide +kernel)
theorem m_353 : (Jvm.Cond.instanceMethod ({ cls := "DrawShares$Shares", name := "settles", desc := "(II)Z" } : Jvm.MethodName)) ∈ lw_tbl := List.mem_of_getElem? (i := 353) (by decide +kernel)
theorem m_354 : (Jvm.Cond.code ({ cls := "DrawShares$Shares", name := "settles", desc := "(II)Z" } : Jvm.MethodName) prog_3_method_4_code (4 : Nat) (Option.some Jvm.ClassFile.FieldType.boolean)) ∈ lw_tbl := List.mem_of_getElem? (i := 354) (by decide +kernel)
theorem m_355 : (Jvm.Cond.methodLink "DrawSharesLaw" (95 : Nat) ({ cls := "DrawSharesLaw", name := "joined", desc := "(LDrawShares;[J)I" } : Jvm.MethodName)) ∈ lw_tbl := List.mem_of_getElem? (i := 355) (by decide +kernel)
theorem m_356 : (Jvm.Cond.static ({ cls := "DrawSharesLaw", name := "joined", desc := "(LDrawShares;[J)I" } : Jvm.MethodName)) ∈ lw_tbl := List.mem_of_getElem? (i := 356) (by decide +kernel)
theorem m_357 : (Jvm.Cond.codeWith ({ cls := "DrawSharesLaw", name := "joined", desc := "(LDrawShares;[J)I" } : Jvm.MethodName) method_8_code (3 : Nat) (Option.some Jvm.ClassFile.FieldType.int) [((0 : Nat), (7 : Nat), (10 : Nat), (25 : Nat))]) ∈ lw_tbl := List.mem_of_getElem? (i := 357) (by decide +kernel)
theorem m_358 : (Jvm.Cond.methodLink "DrawSharesLaw" (34 : Nat) ({ cls := "DrawShares", name := "joined", desc := "()J" } : Jvm.MethodName)) ∈ lw_tbl := List.mem_of_getElem? (i := 358) (by decide +kernel)
theorem m_359 : (Jvm.Cond.instanceMethod ({ cls := "DrawShares", name := "joined", desc := "()J" } : Jvm.MethodName)) ∈ lw_tbl := List.mem_of_getElem? (i := 359) (by decide +kernel)
theorem m_360 : (Jvm.Cond.selects "DrawShares" ({ cls := "DrawShares", name := "joined", desc := "()J" } : Jvm.MethodName) ({ cls := "DrawShares", name := "joined", desc := "()J" } : Jvm.MethodName)) ∈ lw_tbl := List.mem_of_getElem? (i := 360) (by decide +kernel)
theorem m_361 : (Jvm.Cond.code ({ cls := "DrawShares", name := "joined", desc := "()J" } : Jvm.MethodName) prog_1_method_7_code (1 : Nat) (Option.some Jvm.ClassFile.FieldType.long)) ∈ lw_tbl := List.mem_of_getElem? (i := 361) (by decide +kernel)
theorem m_362 : (Jvm.Cond.methodLink "DrawShares" (117 : Nat) ({ cls := "DrawShares", name := "needRun", desc := "()V" } : Jvm.MethodName)) ∈ lw_tbl := List.mem_of_getElem? (i := 362) (by decide +kernel)
theorem m_363 : (Jvm.Cond.privateMethod ({ cls := "DrawShares", name := "needRun", desc := "()V" } : Jvm.MethodName)) ∈ lw_tbl := List.mem_of_getElem? (i := 363) (by decide +kernel)
theorem m_364 : (Jvm.Cond.instanceMethod ({ cls := "DrawShares", name := "needRun", desc := "()V" } : Jvm.MethodName)) ∈ lw_tbl := List.mem_of_getElem? (i := 364) (by decide +kernel)
theorem m_365 : (Jvm.Cond.code ({ cls := "DrawShares", name := "needRun", desc := "()V" } : Jvm.MethodName) prog_1_method_16_code (1 : Nat) (Option.none : Option Jvm.ClassFile.FieldType)) ∈ lw_tbl := List.mem_of_getElem? (i := 365) (by decide +kernel)
theorem m_366 : (Jvm.Cond.stringRef "DrawShares" (157 : Nat) "there was no run that was not refused") ∈ lw_tbl := List.mem_of_getElem? (i := 366) (by decide +kernel)
theorem m_367 : (Jvm.Cond.methodLink "DrawSharesLaw" (99 : Nat) ({ cls := "DrawSharesLaw", name := "many", desc := "(LDrawShares;[J)I" } : Jvm.MethodName)) ∈ lw_tbl := List.mem_of_getElem? (i := 367) (by decide +kernel)
theorem m_368 : (Jvm.Cond.static ({ cls := "DrawSharesLaw", name := "many", desc := "(LDrawShares;[J)I" } : Jvm.MethodName)) ∈ lw_tbl := List.mem_of_getElem? (i := 368) (by decide +kernel)
theorem m_369 : (Jvm.Cond.codeWith ({ cls := "DrawSharesLaw", name := "many", desc := "(LDrawShares;[J)I" } : Jvm.MethodName) method_9_code (3 : Nat) (Option.some Jvm.ClassFile.FieldType.int) [((0 : Nat), (8 : Nat), (11 : Nat), (25 : Nat))]) ∈ lw_tbl := List.mem_of_getElem? (i := 369) (by decide +kernel)
theorem m_370 : (Jvm.Cond.methodLink "DrawSharesLaw" (38 : Nat) ({ cls := "DrawShares", name := "many", desc := "()I" } : Jvm.MethodName)) ∈ lw_tbl := List.mem_of_getElem? (i := 370) (by decide +kernel)
theorem m_371 : (Jvm.Cond.instanceMethod ({ cls := "DrawShares", name := "many", desc := "()I" } : Jvm.MethodName)) ∈ lw_tbl := List.mem_of_getElem? (i := 371) (by decide +kernel)
theorem m_372 : (Jvm.Cond.selects "DrawShares" ({ cls := "DrawShares", name := "many", desc := "()I" } : Jvm.MethodName) ({ cls := "DrawShares", name := "many", desc := "()I" } : Jvm.MethodName)) ∈ lw_tbl := List.mem_of_getElem? (i := 372) (by decide +kernel)
theorem m_373 : (Jvm.Cond.code ({ cls := "DrawShares", name := "many", desc := "()I" } : Jvm.MethodName) prog_1_method_8_code (1 : Nat) (Option.some Jvm.ClassFile.FieldType.int)) ∈ lw_tbl := List.mem_of_getElem? (i := 373) (by decide +kernel)
theorem m_374 : (Jvm.Cond.methodLink "DrawSharesLaw" (102 : Nat) ({ cls := "DrawSharesLaw", name := "value", desc := "(LDrawShares;I[J)I" } : Jvm.MethodName)) ∈ lw_tbl := List.mem_of_getElem? (i := 374) (by decide +kernel)
theorem m_375 : (Jvm.Cond.static ({ cls := "DrawSharesLaw", name := "value", desc := "(LDrawShares;I[J)I" } : Jvm.MethodName)) ∈ lw_tbl := List.mem_of_getElem? (i := 375) (by decide +kernel)
theorem m_376 : (Jvm.Cond.codeWith ({ cls := "DrawSharesLaw", name := "value", desc := "(LDrawShares;I[J)I" } : Jvm.MethodName) method_10_code (4 : Nat) (Option.some Jvm.ClassFile.FieldType.int) [((0 : Nat), (9 : Nat), (12 : Nat), (13 : Nat)), ((0 : Nat), (9 : Nat), (15 : Nat), (25 : Nat))]) ∈ lw_tbl := List.mem_of_getElem? (i := 376) (by decide +kernel)
theorem m_377 : (Jvm.Cond.methodLink "DrawSharesLaw" (42 : Nat) ({ cls := "DrawShares", name := "value", desc := "(I)I" } : Jvm.MethodName)) ∈ lw_tbl := List.mem_of_getElem? (i := 377) (by decide +kernel)
theorem m_378 : (Jvm.Cond.instanceMethod ({ cls := "DrawShares", name := "value", desc := "(I)I" } : Jvm.MethodName)) ∈ lw_tbl := List.mem_of_getElem? (i := 378) (by decide +kernel)
theorem m_379 : (Jvm.Cond.selects "DrawShares" ({ cls := "DrawShares", name := "value", desc := "(I)I" } : Jvm.MethodName) ({ cls := "DrawShares", name := "value", desc := "(I)I" } : Jvm.MethodName)) ∈ lw_tbl := List.mem_of_getElem? (i := 379) (by decide +kernel)
theorem m_380 : (Jvm.Cond.code ({ cls := "DrawShares", name := "value", desc := "(I)I" } : Jvm.MethodName) prog_1_method_9_code (2 : Nat) (Option.some Jvm.ClassFile.FieldType.int)) ∈ lw_tbl := List.mem_of_getElem? (i := 380) (by decide +kernel)
theorem m_381 : (Jvm.Cond.methodLink "DrawSharesLaw" (105 : Nat) ({ cls := "DrawSharesLaw", name := "chain", desc := "(LDrawShares;II[J)I" } : Jvm.MethodName)) ∈ lw_tbl := List.mem_of_getElem? (i := 381) (by decide +kernel)
theorem m_382 : (Jvm.Cond.static ({ cls := "DrawSharesLaw", name := "chain", desc := "(LDrawShares;II[J)I" } : Jvm.MethodName)) ∈ lw_tbl := List.mem_of_getElem? (i := 382) (by decide +kernel)
theorem m_383 : (Jvm.Cond.codeWith ({ cls := "DrawSharesLaw", name := "chain", desc := "(LDrawShares;II[J)I" } : Jvm.MethodName) method_11_code (5 : Nat) (Option.some Jvm.ClassFile.FieldType.int) [((0 : Nat), (9 : Nat), (12 : Nat), (13 : Nat))]) ∈ lw_tbl := List.mem_of_getElem? (i := 383) (by decide +kernel)
theorem m_384 : (Jvm.Cond.methodLink "DrawSharesLaw" (45 : Nat) ({ cls := "DrawShares", name := "chain", desc := "(II)J" } : Jvm.MethodName)) ∈ lw_tbl := List.mem_of_getElem? (i := 384) (by decide +kernel)
theorem m_385 : (Jvm.Cond.instanceMethod ({ cls := "DrawShares", name := "chain", desc := "(II)J" } : Jvm.MethodName)) ∈ lw_tbl := List.mem_of_getElem? (i := 385) (by decide +kernel)
theorem m_386 : (Jvm.Cond.selects "DrawShares" ({ cls := "DrawShares", name := "chain", desc := "(II)J" } : Jvm.MethodName) ({ cls := "DrawShares", name := "chain", desc := "(II)J" } : Jvm.MethodName)) ∈ lw_tbl := List.mem_of_getElem? (i := 386) (by decide +kernel)
theorem m_387 : (Jvm.Cond.code ({ cls := "DrawShares", name := "chain", desc := "(II)J" } : Jvm.MethodName) prog_1_method_10_code (3 : Nat) (Option.some Jvm.ClassFile.FieldType.long)) ∈ lw_tbl := List.mem_of_getElem? (i := 387) (by decide +kernel)
theorem m_388 : (Jvm.Cond.stringRef "DrawShares" (130 : Nat) "there is no such step") ∈ lw_tbl := List.mem_of_getElem? (i := 388) (by decide +kernel)
theorem m_389 : (Jvm.Cond.methodLinkNest "DrawShares" (132 : Nat) ({ cls := "DrawShares$Shares", name := "behind", desc := "(II)J" } : Jvm.MethodName) "DrawShares") ∈ lw_tbl := List.mem_of_getElem? (i := 389) (by decide +kernel)
theorem m_390 : (Jvm.Cond.methodLink "DrawSharesLaw" (108 : Nat) ({ cls := "DrawSharesLaw", name := "came", desc := "(LDrawShares;I[J)I" } : Jvm.MethodName)) ∈ lw_tbl := List.mem_of_getElem? (i := 390) (by decide +kernel)
theorem m_391 : (Jvm.Cond.static ({ cls := "DrawSharesLaw", name := "came", desc := "(LDrawShares;I[J)I" } : Jvm.MethodName)) ∈ lw_tbl := List.mem_of_getElem? (i := 391) (by decide +kernel)
theorem m_392 : (Jvm.Cond.codeWith ({ cls := "DrawSharesLaw", name := "came", desc := "(LDrawShares;I[J)I" } : Jvm.MethodName) method_12_code (4 : Nat) (Option.some Jvm.ClassFile.FieldType.int) [((0 : Nat), (9 : Nat), (12 : Nat), (13 : Nat)), ((0 : Nat), (9 : Nat), (15 : Nat), (25 : Nat))]) ∈ lw_tbl := List.mem_of_getElem? (i := 392) (by decide +kernel)
theorem m_393 : (Jvm.Cond.methodLink "DrawSharesLaw" (49 : Nat) ({ cls := "DrawShares", name := "came", desc := "(I)I" } : Jvm.MethodName)) ∈ lw_tbl := List.mem_of_getElem? (i := 393) (by decide +kernel)
theorem m_394 : (Jvm.Cond.instanceMethod ({ cls := "DrawShares", name := "came", desc := "(I)I" } : Jvm.MethodName)) ∈ lw_tbl := List.mem_of_getElem? (i := 394) (by decide +kernel)
theorem m_395 : (Jvm.Cond.selects "DrawShares" ({ cls := "DrawShares", name := "came", desc := "(I)I" } : Jvm.MethodName) ({ cls := "DrawShares", name := "came", desc := "(I)I" } : Jvm.MethodName)) ∈ lw_tbl := List.mem_of_getElem? (i := 395) (by decide +kernel)
theorem m_396 : (Jvm.Cond.code ({ cls := "DrawShares", name := "came", desc := "(I)I" } : Jvm.MethodName) prog_1_method_11_code (2 : Nat) (Option.some Jvm.ClassFile.FieldType.int)) ∈ lw_tbl := List.mem_of_getElem? (i := 396) (by decide +kernel)
theorem m_397 : (Jvm.Cond.stringRef "DrawShares" (136 : Nat) "there is no such act") ∈ lw_tbl := List.mem_of_getElem? (i := 397) (by decide +kernel)
theorem m_398 : (Jvm.Cond.methodLink "DrawSharesLaw" (111 : Nat) ({ cls := "DrawSharesLaw", name := "begun", desc := "(LDrawShares;I[J)I" } : Jvm.MethodName)) ∈ lw_tbl := List.mem_of_getElem? (i := 398) (by decide +kernel)
theorem m_399 : (Jvm.Cond.static ({ cls := "DrawSharesLaw", name := "begun", desc := "(LDrawShares;I[J)I" } : Jvm.MethodName)) ∈ lw_tbl := List.mem_of_getElem? (i := 399) (by decide +kernel)
theorem m_400 : (Jvm.Cond.codeWith ({ cls := "DrawSharesLaw", name := "begun", desc := "(LDrawShares;I[J)I" } : Jvm.MethodName) method_13_code (4 : Nat) (Option.some Jvm.ClassFile.FieldType.int) [((0 : Nat), (9 : Nat), (12 : Nat), (13 : Nat)), ((0 : Nat), (9 : Nat), (15 : Nat), (25 : Nat))]) ∈ lw_tbl := List.mem_of_getElem? (i := 400) (by decide +kernel)
theorem m_401 : (Jvm.Cond.methodLink "DrawSharesLaw" (52 : Nat) ({ cls := "DrawShares", name := "begun", desc := "(I)I" } : Jvm.MethodName)) ∈ lw_tbl := List.mem_of_getElem? (i := 401) (by decide +kernel)
theorem m_402 : (Jvm.Cond.instanceMethod ({ cls := "DrawShares", name := "begun", desc := "(I)I" } : Jvm.MethodName)) ∈ lw_tbl := List.mem_of_getElem? (i := 402) (by decide +kernel)
theorem m_403 : (Jvm.Cond.selects "DrawShares" ({ cls := "DrawShares", name := "begun", desc := "(I)I" } : Jvm.MethodName) ({ cls := "DrawShares", name := "begun", desc := "(I)I" } : Jvm.MethodName)) ∈ lw_tbl := List.mem_of_getElem? (i := 403) (by decide +kernel)
theorem m_404 : (Jvm.Cond.code ({ cls := "DrawShares", name := "begun", desc := "(I)I" } : Jvm.MethodName) prog_1_method_12_code (2 : Nat) (Option.some Jvm.ClassFile.FieldType.int)) ∈ lw_tbl := List.mem_of_getElem? (i := 404) (by decide +kernel)
theorem m_405 : (Jvm.Cond.methodLink "DrawSharesLaw" (114 : Nat) ({ cls := "DrawSharesLaw", name := "steps", desc := "(LDrawShares;I[J)I" } : Jvm.MethodName)) ∈ lw_tbl := List.mem_of_getElem? (i := 405) (by decide +kernel)
theorem m_406 : (Jvm.Cond.static ({ cls := "DrawSharesLaw", name := "steps", desc := "(LDrawShares;I[J)I" } : Jvm.MethodName)) ∈ lw_tbl := List.mem_of_getElem? (i := 406) (by decide +kernel)
theorem m_407 : (Jvm.Cond.codeWith ({ cls := "DrawSharesLaw", name := "steps", desc := "(LDrawShares;I[J)I" } : Jvm.MethodName) method_14_code (4 : Nat) (Option.some Jvm.ClassFile.FieldType.int) [((0 : Nat), (9 : Nat), (12 : Nat), (13 : Nat)), ((0 : Nat), (9 : Nat), (15 : Nat), (25 : Nat))]) ∈ lw_tbl := List.mem_of_getElem? (i := 407) (by decide +kernel)
theorem m_408 : (Jvm.Cond.methodLink "DrawSharesLaw" (55 : Nat) ({ cls := "DrawShares", name := "steps", desc := "(I)I" } : Jvm.MethodName)) ∈ lw_tbl := List.mem_of_getElem? (i := 408) (by decide +kernel)
theorem m_409 : (Jvm.Cond.instanceMethod ({ cls := "DrawShares", name := "steps", desc := "(I)I" } : Jvm.MethodName)) ∈ lw_tbl := List.mem_of_getElem? (i := 409) (by decide +kernel)
theorem m_410 : (Jvm.Cond.selects "DrawShares" ({ cls := "DrawShares", name := "steps", desc := "(I)I" } : Jvm.MethodName) ({ cls := "DrawShares", name := "steps", desc := "(I)I" } : Jvm.MethodName)) ∈ lw_tbl := List.mem_of_getElem? (i := 410) (by decide +kernel)
theorem m_411 : (Jvm.Cond.code ({ cls := "DrawShares", name := "steps", desc := "(I)I" } : Jvm.MethodName) prog_1_method_13_code (2 : Nat) (Option.some Jvm.ClassFile.FieldType.int)) ∈ lw_tbl := List.mem_of_getElem? (i := 411) (by decide +kernel)
theorem m_412 : (Jvm.Cond.stringRef "DrawShares" (144 : Nat) "what is not 0 or 1") ∈ lw_tbl := List.mem_of_getElem? (i := 412) (by decide +kernel)
theorem m_413 : (Jvm.Cond.methodLink "DrawSharesLaw" (117 : Nat) ({ cls := "DrawSharesLaw", name := "count", desc := "(LDrawShares;I[J)I" } : Jvm.MethodName)) ∈ lw_tbl := List.mem_of_getElem? (i := 413) (by decide +kernel)
theorem m_414 : (Jvm.Cond.static ({ cls := "DrawSharesLaw", name := "count", desc := "(LDrawShares;I[J)I" } : Jvm.MethodName)) ∈ lw_tbl := List.mem_of_getElem? (i := 414) (by decide +kernel)
theorem m_415 : (Jvm.Cond.codeWith ({ cls := "DrawSharesLaw", name := "count", desc := "(LDrawShares;I[J)I" } : Jvm.MethodName) method_15_code (4 : Nat) (Option.some Jvm.ClassFile.FieldType.int) [((0 : Nat), (9 : Nat), (12 : Nat), (13 : Nat))]) ∈ lw_tbl := List.mem_of_getElem? (i := 415) (by decide +kernel)
theorem m_416 : (Jvm.Cond.methodLink "DrawSharesLaw" (58 : Nat) ({ cls := "DrawShares", name := "count", desc := "(I)I" } : Jvm.MethodName)) ∈ lw_tbl := List.mem_of_getElem? (i := 416) (by decide +kernel)
theorem m_417 : (Jvm.Cond.instanceMethod ({ cls := "DrawShares", name := "count", desc := "(I)I" } : Jvm.MethodName)) ∈ lw_tbl := List.mem_of_getElem? (i := 417) (by decide +kernel)
theorem m_418 : (Jvm.Cond.selects "DrawShares" ({ cls := "DrawShares", name := "count", desc := "(I)I" } : Jvm.MethodName) ({ cls := "DrawShares", name := "count", desc := "(I)I" } : Jvm.MethodName)) ∈ lw_tbl := List.mem_of_getElem? (i := 418) (by decide +kernel)
theorem m_419 : (Jvm.Cond.code ({ cls := "DrawShares", name := "count", desc := "(I)I" } : Jvm.MethodName) prog_1_method_14_code (2 : Nat) (Option.some Jvm.ClassFile.FieldType.int)) ∈ lw_tbl := List.mem_of_getElem? (i := 419) (by decide +kernel)
theorem m_420 : (Jvm.Cond.stringRef "DrawShares" (149 : Nat) "what is not 0 .. 3") ∈ lw_tbl := List.mem_of_getElem? (i := 420) (by decide +kernel)
theorem m_421 : (Jvm.Cond.classLink "DrawSharesLaw" (70 : Nat) "DrawSharesModel") ∈ lw_tbl := List.mem_of_getElem? (i := 421) (by decide +kernel)
theorem m_422 : (Jvm.Cond.instantiable "DrawSharesModel" (20 : Nat)) ∈ lw_tbl := List.mem_of_getElem? (i := 422) (by decide +kernel)
theorem m_423 : (Jvm.Cond.methodLink "DrawSharesLaw" (72 : Nat) ({ cls := "DrawSharesModel", name := "<init>", desc := "(I)V" } : Jvm.MethodName)) ∈ lw_tbl := List.mem_of_getElem? (i := 423) (by decide +kernel)
theorem m_424 : (Jvm.Cond.instanceMethod ({ cls := "DrawSharesModel", name := "<init>", desc := "(I)V" } : Jvm.MethodName)) ∈ lw_tbl := List.mem_of_getElem? (i := 424) (by decide +kernel)
theorem m_425 : (Jvm.Cond.code ({ cls := "DrawSharesModel", name := "<init>", desc := "(I)V" } : Jvm.MethodName) prog_6_method_1_code (3 : Nat) (Option.none : Option Jvm.ClassFile.FieldType)) ∈ lw_tbl := List.mem_of_getElem? (i := 425) (by decide +kernel)
theorem m_426 : (Jvm.Cond.methodLink "DrawSharesModel" (1 : Nat) ({ cls := "java/lang/Object", name := "<init>", desc := "()V" } : Jvm.MethodName)) ∈ lw_tbl := List.mem_of_getElem? (i := 426) (by decide +kernel)
theorem m_427 : (Jvm.Cond.fieldLink "DrawSharesModel" (47 : Nat) "DrawSharesModel" "thrown" "I") ∈ lw_tbl := List.mem_of_getElem? (i := 427) (by decide +kernel)
theorem m_428 : (Jvm.Cond.fieldLink "DrawSharesModel" (44 : Nat) "DrawSharesModel" "shares" "I") ∈ lw_tbl := List.mem_of_getElem? (i := 428) (by decide +kernel)
theorem m_429 : (Jvm.Cond.fieldLink "DrawSharesModel" (7 : Nat) "DrawSharesModel" "work" "[I") ∈ lw_tbl := List.mem_of_getElem? (i := 429) (by decide +kernel)
theorem m_430 : (Jvm.Cond.fieldLink "DrawSharesModel" (13 : Nat) "DrawSharesModel" "seed" "[I") ∈ lw_tbl := List.mem_of_getElem? (i := 430) (by decide +kernel)
theorem m_431 : (Jvm.Cond.fieldLink "DrawSharesModel" (16 : Nat) "DrawSharesModel" "bits" "[I") ∈ lw_tbl := List.mem_of_getElem? (i := 431) (by decide +kernel)
theorem m_432 : (Jvm.Cond.fieldLink "DrawSharesModel" (19 : Nat) "DrawSharesModel" "failStep" "[I") ∈ lw_tbl := List.mem_of_getElem? (i := 432) (by decide +kernel)
theorem m_433 : (Jvm.Cond.fieldLink "DrawSharesModel" (22 : Nat) "DrawSharesModel" "failTimes" "[I") ∈ lw_tbl := List.mem_of_getElem? (i := 433) (by decide +kernel)
theorem m_434 : (Jvm.Cond.fieldLink "DrawSharesModel" (62 : Nat) "DrawSharesModel" "acts" "I") ∈ lw_tbl := List.mem_of_getElem? (i := 434) (by decide +kernel)
theorem m_435 : (Jvm.Cond.fieldLink "DrawSharesModel" (25 : Nat) "DrawSharesModel" "rank" "[I") ∈ lw_tbl := List.mem_of_getElem? (i := 435) (by decide +kernel)
theorem m_436 : (Jvm.Cond.fieldLink "DrawSharesModel" (28 : Nat) "DrawSharesModel" "actValue" "[I") ∈ lw_tbl := List.mem_of_getElem? (i := 436) (by decide +kernel)
theorem m_437 : (Jvm.Cond.fieldLink "DrawSharesModel" (31 : Nat) "DrawSharesModel" "stop" "I") ∈ lw_tbl := List.mem_of_getElem? (i := 437) (by decide +kernel)
theorem m_438 : (Jvm.Cond.fieldLink "DrawSharesModel" (92 : Nat) "DrawSharesModel" "runs" "I") ∈ lw_tbl := List.mem_of_getElem? (i := 438) (by decide +kernel)
theorem m_439 : (Jvm.Cond.fieldLink "DrawSharesModel" (89 : Nat) "DrawSharesModel" "refused" "I") ∈ lw_tbl := List.mem_of_getElem? (i := 439) (by decide +kernel)
theorem m_440 : (Jvm.Cond.fieldLink "DrawSharesModel" (73 : Nat) "DrawSharesModel" "sum" "J") ∈ lw_tbl := List.mem_of_getElem? (i := 440) (by decide +kernel)
theorem m_441 : (Jvm.Cond.fieldLink "DrawSharesModel" (77 : Nat) "DrawSharesModel" "many" "I") ∈ lw_tbl := List.mem_of_getElem? (i := 441) (by decide +kernel)
theorem m_442 : (Jvm.Cond.fieldLink "DrawSharesModel" (98 : Nat) "DrawSharesModel" "steps" "I") ∈ lw_tbl := List.mem_of_getElem? (i := 442) (by decide +kernel)
theorem m_443 : (Jvm.Cond.fieldLink "DrawSharesModel" (95 : Nat) "DrawSharesModel" "left" "I") ∈ lw_tbl := List.mem_of_getElem? (i := 443) (by decide +kernel)
theorem m_444 : (Jvm.Cond.fieldLink "DrawSharesModel" (35 : Nat) "DrawSharesModel" "value" "[I") ∈ lw_tbl := List.mem_of_getElem? (i := 444) (by decide +kernel)
theorem m_445 : (Jvm.Cond.fieldLink "DrawSharesModel" (38 : Nat) "DrawSharesModel" "begun" "[I") ∈ lw_tbl := List.mem_of_getElem? (i := 445) (by decide +kernel)
theorem m_446 : (Jvm.Cond.fieldLink "DrawSharesModel" (41 : Nat) "DrawSharesModel" "came" "[I") ∈ lw_tbl := List.mem_of_getElem? (i := 446) (by decide +kernel)
theorem m_447 : (Jvm.Cond.lays "DrawSharesModel" "DrawSharesModel" "thrown" "I") ∈ lw_tbl := List.mem_of_getElem? (i := 447) (by decide +kernel)
theorem m_448 : (Jvm.Cond.soleField "DrawSharesModel" "thrown") ∈ lw_tbl := List.mem_of_getElem? (i := 448) (by decide +kernel)
theorem m_449 : (Jvm.Cond.laysFinal "DrawSharesModel" "DrawSharesModel" "shares" "I") ∈ lw_tbl := List.mem_of_getElem? (i := 449) (by decide +kernel)
theorem m_450 : (Jvm.Cond.soleField "DrawSharesModel" "shares") ∈ lw_tbl := List.mem_of_getElem? (i := 450) (by decide +kernel)
theorem m_451 : (Jvm.Cond.laysFinal "DrawSharesModel" "DrawSharesModel" "work" "[I") ∈ lw_tbl := List.mem_of_getElem? (i := 451) (by decide +kernel)
theorem m_452 : (Jvm.Cond.soleField "DrawSharesModel" "work") ∈ lw_tbl := List.mem_of_getElem? (i := 452) (by decide +kernel)
theorem m_453 : (Jvm.Cond.laysFinal "DrawSharesModel" "DrawSharesModel" "seed" "[I") ∈ lw_tbl := List.mem_of_getElem? (i := 453) (by decide +kernel)
theorem m_454 : (Jvm.Cond.soleField "DrawSharesModel" "seed") ∈ lw_tbl := List.mem_of_getElem? (i := 454) (by decide +kernel)
theorem m_455 : (Jvm.Cond.laysFinal "DrawSharesModel" "DrawSharesModel" "bits" "[I") ∈ lw_tbl := List.mem_of_getElem? (i := 455) (by decide +kernel)
theorem m_456 : (Jvm.Cond.soleField "DrawSharesModel" "bits") ∈ lw_tbl := List.mem_of_getElem? (i := 456) (by decide +kernel)
theorem m_457 : (Jvm.Cond.laysFinal "DrawSharesModel" "DrawSharesModel" "failStep" "[I") ∈ lw_tbl := List.mem_of_getElem? (i := 457) (by decide +kernel)
theorem m_458 : (Jvm.Cond.soleField "DrawSharesModel" "failStep") ∈ lw_tbl := List.mem_of_getElem? (i := 458) (by decide +kernel)
theorem m_459 : (Jvm.Cond.laysFinal "DrawSharesModel" "DrawSharesModel" "failTimes" "[I") ∈ lw_tbl := List.mem_of_getElem? (i := 459) (by decide +kernel)
theorem m_460 : (Jvm.Cond.soleField "DrawSharesModel" "failTimes") ∈ lw_tbl := List.mem_of_getElem? (i := 460) (by decide +kernel)
theorem m_461 : (Jvm.Cond.lays "DrawSharesModel" "DrawSharesModel" "acts" "I") ∈ lw_tbl := List.mem_of_getElem? (i := 461) (by decide +kernel)
theorem m_462 : (Jvm.Cond.soleField "DrawSharesModel" "acts") ∈ lw_tbl := List.mem_of_getElem? (i := 462) (by decide +kernel)
theorem m_463 : (Jvm.Cond.laysFinal "DrawSharesModel" "DrawSharesModel" "rank" "[I") ∈ lw_tbl := List.mem_of_getElem? (i := 463) (by decide +kernel)
theorem m_464 : (Jvm.Cond.soleField "DrawSharesModel" "rank") ∈ lw_tbl := List.mem_of_getElem? (i := 464) (by decide +kernel)
theorem m_465 : (Jvm.Cond.laysFinal "DrawSharesModel" "DrawSharesModel" "actValue" "[I") ∈ lw_tbl := List.mem_of_getElem? (i := 465) (by decide +kernel)
theorem m_466 : (Jvm.Cond.soleField "DrawSharesModel" "actValue") ∈ lw_tbl := List.mem_of_getElem? (i := 466) (by decide +kernel)
theorem m_467 : (Jvm.Cond.lays "DrawSharesModel" "DrawSharesModel" "stop" "I") ∈ lw_tbl := List.mem_of_getElem? (i := 467) (by decide +kernel)
theorem m_468 : (Jvm.Cond.soleField "DrawSharesModel" "stop") ∈ lw_tbl := List.mem_of_getElem? (i := 468) (by decide +kernel)
theorem m_469 : (Jvm.Cond.lays "DrawSharesModel" "DrawSharesModel" "runs" "I") ∈ lw_tbl := List.mem_of_getElem? (i := 469) (by decide +kernel)
theorem m_470 : (Jvm.Cond.soleField "DrawSharesModel" "runs") ∈ lw_tbl := List.mem_of_getElem? (i := 470) (by decide +kernel)
theorem m_471 : (Jvm.Cond.lays "DrawSharesModel" "DrawSharesModel" "refused" "I") ∈ lw_tbl := List.mem_of_getElem? (i := 471) (by decide +kernel)
theorem m_472 : (Jvm.Cond.soleField "DrawSharesModel" "refused") ∈ lw_tbl := List.mem_of_getElem? (i := 472) (by decide +kernel)
theorem m_473 : (Jvm.Cond.lays "DrawSharesModel" "DrawSharesModel" "sum" "J") ∈ lw_tbl := List.mem_of_getElem? (i := 473) (by decide +kernel)
theorem m_474 : (Jvm.Cond.soleField "DrawSharesModel" "sum") ∈ lw_tbl := List.mem_of_getElem? (i := 474) (by decide +kernel)
theorem m_475 : (Jvm.Cond.lays "DrawSharesModel" "DrawSharesModel" "many" "I") ∈ lw_tbl := List.mem_of_getElem? (i := 475) (by decide +kernel)
theorem m_476 : (Jvm.Cond.soleField "DrawSharesModel" "many") ∈ lw_tbl := List.mem_of_getElem? (i := 476) (by decide +kernel)
theorem m_477 : (Jvm.Cond.lays "DrawSharesModel" "DrawSharesModel" "steps" "I") ∈ lw_tbl := List.mem_of_getElem? (i := 477) (by decide +kernel)
theorem m_478 : (Jvm.Cond.soleField "DrawSharesModel" "steps") ∈ lw_tbl := List.mem_of_getElem? (i := 478) (by decide +kernel)
theorem m_479 : (Jvm.Cond.lays "DrawSharesModel" "DrawSharesModel" "left" "I") ∈ lw_tbl := List.mem_of_getElem? (i := 479) (by decide +kernel)
theorem m_480 : (Jvm.Cond.soleField "DrawSharesModel" "left") ∈ lw_tbl := List.mem_of_getElem? (i := 480) (by decide +kernel)
theorem m_481 : (Jvm.Cond.laysFinal "DrawSharesModel" "DrawSharesModel" "value" "[I") ∈ lw_tbl := List.mem_of_getElem? (i := 481) (by decide +kernel)
theorem m_482 : (Jvm.Cond.soleField "DrawSharesModel" "value") ∈ lw_tbl := List.mem_of_getElem? (i := 482) (by decide +kernel)
theorem m_483 : (Jvm.Cond.laysFinal "DrawSharesModel" "DrawSharesModel" "begun" "[I") ∈ lw_tbl := List.mem_of_getElem? (i := 483) (by decide +kernel)
theorem m_484 : (Jvm.Cond.soleField "DrawSharesModel" "begun") ∈ lw_tbl := List.mem_of_getElem? (i := 484) (by decide +kernel)
theorem m_485 : (Jvm.Cond.laysFinal "DrawSharesModel" "DrawSharesModel" "came" "[I") ∈ lw_tbl := List.mem_of_getElem? (i := 485) (by decide +kernel)
theorem m_486 : (Jvm.Cond.soleField "DrawSharesModel" "came") ∈ lw_tbl := List.mem_of_getElem? (i := 486) (by decide +kernel)
theorem m_487 : (Jvm.Cond.superclass "DrawSharesModel" "java/lang/Object") ∈ lw_tbl := List.mem_of_getElem? (i := 487) (by decide +kernel)
theorem m_488 : (Jvm.Cond.methodLink "DrawSharesLaw" (77 : Nat) ({ cls := "DrawSharesModel", name := "thrown", desc := "()I" } : Jvm.MethodName)) ∈ lw_tbl := List.mem_of_getElem? (i := 488) (by decide +kernel)
theorem m_489 : (Jvm.Cond.instanceMethod ({ cls := "DrawSharesModel", name := "thrown", desc := "()I" } : Jvm.MethodName)) ∈ lw_tbl := List.mem_of_getElem? (i := 489) (by decide +kernel)
theorem m_490 : (Jvm.Cond.selects "DrawSharesModel" ({ cls := "DrawSharesModel", name := "thrown", desc := "()I" } : Jvm.MethodName) ({ cls := "DrawSharesModel", name := "thrown", desc := "()I" } : Jvm.MethodName)) ∈ lw_tbl := List.mem_of_getElem? (i := 490) (by decide +kernel)
theorem m_491 : (Jvm.Cond.code ({ cls := "DrawSharesModel", name := "thrown", desc := "()I" } : Jvm.MethodName) prog_6_method_2_code (1 : Nat) (Option.some Jvm.ClassFile.FieldType.int)) ∈ lw_tbl := List.mem_of_getElem? (i := 491) (by decide +kernel)
theorem m_492 : (Jvm.Cond.methodLink "DrawSharesLaw" (76 : Nat) ({ cls := "DrawSharesModel", name := "share", desc := "(IIII)I" } : Jvm.MethodName)) ∈ lw_tbl := List.mem_of_getElem? (i := 492) (by decide +kernel)
theorem m_493 : (Jvm.Cond.instanceMethod ({ cls := "DrawSharesModel", name := "share", desc := "(IIII)I" } : Jvm.MethodName)) ∈ lw_tbl := List.mem_of_getElem? (i := 493) (by decide +kernel)
theorem m_494 : (Jvm.Cond.selects "DrawSharesModel" ({ cls := "DrawSharesModel", name := "share", desc := "(IIII)I" } : Jvm.MethodName) ({ cls := "DrawSharesModel", name := "share", desc := "(IIII)I" } : Jvm.MethodName)) ∈ lw_tbl := List.mem_of_getElem? (i := 494) (by decide +kernel)
theorem m_495 : (Jvm.Cond.code ({ cls := "DrawSharesModel", name := "share", desc := "(IIII)I" } : Jvm.MethodName) prog_6_method_6_code (6 : Nat) (Option.some Jvm.ClassFile.FieldType.int)) ∈ lw_tbl := List.mem_of_getElem? (i := 495) (by decide +kernel)
theorem m_496 : (Jvm.Cond.methodLink "DrawSharesModel" (50 : Nat) ({ cls := "DrawSharesModel", name := "isShare", desc := "(I)Z" } : Jvm.MethodName)) ∈ lw_tbl := List.mem_of_getElem? (i := 496) (by decide +kernel)
theorem m_497 : (Jvm.Cond.privateMethod ({ cls := "DrawSharesModel", name := "isShare", desc := "(I)Z" } : Jvm.MethodName)) ∈ lw_tbl := List.mem_of_getElem? (i := 497) (by decide +kernel)
theorem m_498 : (Jvm.Cond.instanceMethod ({ cls := "DrawSharesModel", name := "isShare", desc := "(I)Z" } : Jvm.MethodName)) ∈ lw_tbl := List.mem_of_getElem? (i := 498) (by decide +kernel)
theorem m_499 : (Jvm.Cond.code ({ cls := "DrawSharesModel", name := "isShare", desc := "(I)Z" } : Jvm.MethodName) prog_6_method_4_code (2 : Nat) (Option.some Jvm.ClassFile.FieldType.boolean)) ∈ lw_tbl := List.mem_of_getElem? (i := 499) (by decide +kernel)
theorem m_500 : (Jvm.Cond.methodLink "DrawSharesModel" (54 : Nat) ({ cls := "DrawSharesModel", name := "refuse", desc := "(I)I" } : Jvm.MethodName)) ∈ lw_tbl := List.mem_of_getElem? (i := 500) (by decide +kernel)
theorem m_501 : (Jvm.Cond.privateMethod ({ cls := "DrawSharesModel", name := "refuse", desc := "(I)I" } : Jvm.MethodName)) ∈ lw_tbl := List.mem_of_getElem? (i := 501) (by decide +kernel)
theorem m_502 : (Jvm.Cond.instanceMethod ({ cls := "DrawSharesModel", name := "refuse", desc := "(I)I" } : Jvm.MethodName)) ∈ lw_tbl := List.mem_of_getElem? (i := 502) (by decide +kernel)
theorem m_503 : (Jvm.Cond.code ({ cls := "DrawSharesModel", name := "refuse", desc := "(I)I" } : Jvm.MethodName) prog_6_method_3_code (2 : Nat) (Option.some Jvm.ClassFile.FieldType.int)) ∈ lw_tbl := List.mem_of_getElem? (i := 503) (by decide +kernel)
theorem m_504 : (Jvm.Cond.methodLink "DrawSharesModel" (58 : Nat) ({ cls := "DrawSharesModel", name := "in", desc := "(III)Z" } : Jvm.MethodName)) ∈ lw_tbl := List.mem_of_getElem? (i := 504) (by decide +kernel)
theorem m_505 : (Jvm.Cond.static ({ cls := "DrawSharesModel", name := "in", desc := "(III)Z" } : Jvm.MethodName)) ∈ lw_tbl := List.mem_of_getElem? (i := 505) (by decide +kernel)
theorem m_506 : (Jvm.Cond.code ({ cls := "DrawSharesModel", name := "in", desc := "(III)Z" } : Jvm.MethodName) prog_6_method_5_code (3 : Nat) (Option.some Jvm.ClassFile.FieldType.boolean)) ∈ lw_tbl := List.mem_of_getElem? (i := 506) (by decide +kernel)
theorem m_507 : (Jvm.Cond.methodLink "DrawSharesLaw" (83 : Nat) ({ cls := "DrawSharesModel", name := "fails", desc := "(III)I" } : Jvm.MethodName)) ∈ lw_tbl := List.mem_of_getElem? (i := 507) (by decide +kernel)
theorem m_508 : (Jvm.Cond.instanceMethod ({ cls := "DrawSharesModel", name := "fails", desc := "(III)I" } : Jvm.MethodName)) ∈ lw_tbl := List.mem_of_getElem? (i := 508) (by decide +kernel)
theorem m_509 : (Jvm.Cond.selects "DrawSharesModel" ({ cls := "DrawSharesModel", name := "fails", desc := "(III)I" } : Jvm.MethodName) ({ cls := "DrawSharesModel", name := "fails", desc := "(III)I" } : Jvm.MethodName)) ∈ lw_tbl := List.mem_of_getElem? (i := 509) (by decide +kernel)
theorem m_510 : (Jvm.Cond.code ({ cls := "DrawSharesModel", name := "fails", desc := "(III)I" } : Jvm.MethodName) prog_6_method_7_code (5 : Nat) (Option.some Jvm.ClassFile.FieldType.int)) ∈ lw_tbl := List.mem_of_getElem? (i := 510) (by decide +kernel)
theorem m_511 : (Jvm.Cond.methodLink "DrawSharesLaw" (87 : Nat) ({ cls := "DrawSharesModel", name := "act", desc := "(II)I" } : Jvm.MethodName)) ∈ lw_tbl := List.mem_of_getElem? (i := 511) (by decide +kernel)
theorem m_512 : (Jvm.Cond.instanceMethod ({ cls := "DrawSharesModel", name := "act", desc := "(II)I" } : Jvm.MethodName)) ∈ lw_tbl := List.mem_of_getElem? (i := 512) (by decide +kernel)
theorem m_513 : (Jvm.Cond.selects "DrawSharesModel" ({ cls := "DrawSharesModel", name := "act", desc := "(II)I" } : Jvm.MethodName) ({ cls := "DrawSharesModel", name := "act", desc := "(II)I" } : Jvm.MethodName)) ∈ lw_tbl := List.mem_of_getElem? (i := 513) (by decide +kernel)
theorem m_514 : (Jvm.Cond.code ({ cls := "DrawSharesModel", name := "act", desc := "(II)I" } : Jvm.MethodName) prog_6_method_8_code (3 : Nat) (Option.some Jvm.ClassFile.FieldType.int)) ∈ lw_tbl := List.mem_of_getElem? (i := 514) (by decide +kernel)
theorem m_515 : (Jvm.Cond.methodLink "DrawSharesLaw" (91 : Nat) ({ cls := "DrawSharesModel", name := "stop", desc := "(I)I" } : Jvm.MethodName)) ∈ lw_tbl := List.mem_of_getElem? (i := 515) (by decide +kernel)
theorem m_516 : (Jvm.Cond.instanceMethod ({ cls := "DrawSharesModel", name := "stop", desc := "(I)I" } : Jvm.MethodName)) ∈ lw_tbl := List.mem_of_getElem? (i := 516) (by decide +kernel)
theorem m_517 : (Jvm.Cond.selects "DrawSharesModel" ({ cls := "DrawSharesModel", name := "stop", desc := "(I)I" } : Jvm.MethodName) ({ cls := "DrawSharesModel", name := "stop", desc := "(I)I" } : Jvm.MethodName)) ∈ lw_tbl := List.mem_of_getElem? (i := 517) (by decide +kernel)
theorem m_518 : (Jvm.Cond.code ({ cls := "DrawSharesModel", name := "stop", desc := "(I)I" } : Jvm.MethodName) prog_6_method_9_code (3 : Nat) (Option.some Jvm.ClassFile.FieldType.int)) ∈ lw_tbl := List.mem_of_getElem? (i := 518) (by decide +kernel)
theorem m_519 : (Jvm.Cond.methodLink "DrawSharesLaw" (94 : Nat) ({ cls := "DrawSharesModel", name := "run", desc := "(II)I" } : Jvm.MethodName)) ∈ lw_tbl := List.mem_of_getElem? (i := 519) (by decide +kernel)
theorem m_520 : (Jvm.Cond.instanceMethod ({ cls := "DrawSharesModel", name := "run", desc := "(II)I" } : Jvm.MethodName)) ∈ lw_tbl := List.mem_of_getElem? (i := 520) (by decide +kernel)
theorem m_521 : (Jvm.Cond.selects "DrawSharesModel" ({ cls := "DrawSharesModel", name := "run", desc := "(II)I" } : Jvm.MethodName) ({ cls := "DrawSharesModel", name := "run", desc := "(II)I" } : Jvm.MethodName)) ∈ lw_tbl := List.mem_of_getElem? (i := 521) (by decide +kernel)
theorem m_522 : (Jvm.Cond.code ({ cls := "DrawSharesModel", name := "run", desc := "(II)I" } : Jvm.MethodName) prog_6_method_14_code (5 : Nat) (Option.some Jvm.ClassFile.FieldType.int)) ∈ lw_tbl := List.mem_of_getElem? (i := 522) (by decide +kernel)
theorem m_523 : (Jvm.Cond.methodLink "DrawSharesModel" (101 : Nat) ({ cls := "DrawSharesModel", name := "after", desc := "(II)J" } : Jvm.MethodName)) ∈ lw_tbl := List.mem_of_getElem? (i := 523) (by decide +kernel)
theorem m_524 : (Jvm.Cond.privateMethod ({ cls := "DrawSharesModel", name := "after", desc := "(II)J" } : Jvm.MethodName)) ∈ lw_tbl := List.mem_of_getElem? (i := 524) (by decide +kernel)
theorem m_525 : (Jvm.Cond.instanceMethod ({ cls := "DrawSharesModel", name := "after", desc := "(II)J" } : Jvm.MethodName)) ∈ lw_tbl := List.mem_of_getElem? (i := 525) (by decide +kernel)
theorem m_526 : (Jvm.Cond.code ({ cls := "DrawSharesModel", name := "after", desc := "(II)J" } : Jvm.MethodName) prog_6_method_10_code (6 : Nat) (Option.some Jvm.ClassFile.FieldType.long)) ∈ lw_tbl := List.mem_of_getElem? (i := 526) (by decide +kernel)
theorem m_527 : (Jvm.Cond.constantLong "DrawSharesModel" (65 : Nat) (2654435761 : Int64)) ∈ lw_tbl := List.mem_of_getElem? (i := 527) (by decide +kernel)
theorem m_528 : (Jvm.Cond.constantLong "DrawSharesModel" (67 : Nat) (6364136223846793005 : Int64)) ∈ lw_tbl := List.mem_of_getElem? (i := 528) (by decide +kernel)
theorem m_529 : (Jvm.Cond.constantLong "DrawSharesModel" (69 : Nat) (1442695040888963407 : Int64)) ∈ lw_tbl := List.mem_of_getElem? (i := 529) (by decide +kernel)
theorem m_530 : (Jvm.Cond.methodLink "DrawSharesModel" (105 : Nat) ({ cls := "DrawSharesModel", name := "join", desc := "()I" } : Jvm.MethodName)) ∈ lw_tbl := List.mem_of_getElem? (i := 530) (by decide +kernel)
theorem m_531 : (Jvm.Cond.privateMethod ({ cls := "DrawSharesModel", name := "join", desc := "()I" } : Jvm.MethodName)) ∈ lw_tbl := List.mem_of_getElem? (i := 531) (by decide +kernel)
theorem m_532 : (Jvm.Cond.instanceMethod ({ cls := "DrawSharesModel", name := "join", desc := "()I" } : Jvm.MethodName)) ∈ lw_tbl := List.mem_of_getElem? (i := 532) (by decide +kernel)
theorem m_533 : (Jvm.Cond.code ({ cls := "DrawSharesModel", name := "join", desc := "()I" } : Jvm.MethodName) prog_6_method_13_code (2 : Nat) (Option.some Jvm.ClassFile.FieldType.int)) ∈ lw_tbl := List.mem_of_getElem? (i := 533) (by decide +kernel)
theorem m_534 : (Jvm.Cond.methodLink "DrawSharesModel" (80 : Nat) ({ cls := "DrawSharesModel", name := "acted", desc := "(I)V" } : Jvm.MethodName)) ∈ lw_tbl := List.mem_of_getElem? (i := 534) (by decide +kernel)
theorem m_535 : (Jvm.Cond.privateMethod ({ cls := "DrawSharesModel", name := "acted", desc := "(I)V" } : Jvm.MethodName)) ∈ lw_tbl := List.mem_of_getElem? (i := 535) (by decide +kernel)
theorem m_536 : (Jvm.Cond.instanceMethod ({ cls := "DrawSharesModel", name := "acted", desc := "(I)V" } : Jvm.MethodName)) ∈ lw_tbl := List.mem_of_getElem? (i := 536) (by decide +kernel)
theorem m_537 : (Jvm.Cond.code ({ cls := "DrawSharesModel", name := "acted", desc := "(I)V" } : Jvm.MethodName) prog_6_method_11_code (3 : Nat) (Option.none : Option Jvm.ClassFile.FieldType)) ∈ lw_tbl := List.mem_of_getElem? (i := 537) (by decide +kernel)
theorem m_538 : (Jvm.Cond.constantLong "DrawSharesModel" (71 : Nat) (31 : Int64)) ∈ lw_tbl := List.mem_of_getElem? (i := 538) (by decide +kernel)
theorem m_539 : (Jvm.Cond.constantLong "DrawSharesModel" (84 : Nat) (1000003 : Int64)) ∈ lw_tbl := List.mem_of_getElem? (i := 539) (by decide +kernel)
theorem m_540 : (Jvm.Cond.methodLink "DrawSharesModel" (86 : Nat) ({ cls := "DrawSharesModel", name := "settles", desc := "(I)Z" } : Jvm.MethodName)) ∈ lw_tbl := List.mem_of_getElem? (i := 540) (by decide +kernel)
theorem m_541 : (Jvm.Cond.privateMethod ({ cls := "DrawSharesModel", name := "settles", desc := "(I)Z" } : Jvm.MethodName)) ∈ lw_tbl := List.mem_of_getElem? (i := 541) (by decide +kernel)
theorem m_542 : (Jvm.Cond.instanceMethod ({ cls := "DrawSharesModel", name := "settles", desc := "(I)Z" } : Jvm.MethodName)) ∈ lw_tbl := List.mem_of_getElem? (i := 542) (by decide +kernel)
theorem m_543 : (Jvm.Cond.code ({ cls := "DrawSharesModel", name := "settles", desc := "(I)Z" } : Jvm.MethodName) prog_6_method_12_code (2 : Nat) (Option.some Jvm.ClassFile.FieldType.boolean)) ∈ lw_tbl := List.mem_of_getElem? (i := 543) (by decide +kernel)
theorem m_544 : (Jvm.Cond.methodLink "DrawSharesLaw" (98 : Nat) ({ cls := "DrawSharesModel", name := "joined", desc := "()J" } : Jvm.MethodName)) ∈ lw_tbl := List.mem_of_getElem? (i := 544) (by decide +kernel)
theorem m_545 : (Jvm.Cond.instanceMethod ({ cls := "DrawSharesModel", name := "joined", desc := "()J" } : Jvm.MethodName)) ∈ lw_tbl := List.mem_of_getElem? (i := 545) (by decide +kernel)
theorem m_546 : (Jvm.Cond.selects "DrawSharesModel" ({ cls := "DrawSharesModel", name := "joined", desc := "()J" } : Jvm.MethodName) ({ cls := "DrawSharesModel", name := "joined", desc := "()J" } : Jvm.MethodName)) ∈ lw_tbl := List.mem_of_getElem? (i := 546) (by decide +kernel)
theorem m_547 : (Jvm.Cond.code ({ cls := "DrawSharesModel", name := "joined", desc := "()J" } : Jvm.MethodName) prog_6_method_16_code (1 : Nat) (Option.some Jvm.ClassFile.FieldType.long)) ∈ lw_tbl := List.mem_of_getElem? (i := 547) (by decide +kernel)
theorem m_548 : (Jvm.Cond.methodLink "DrawSharesModel" (109 : Nat) ({ cls := "DrawSharesModel", name := "isNone", desc := "()Z" } : Jvm.MethodName)) ∈ lw_tbl := List.mem_of_getElem? (i := 548) (by decide +kernel)
theorem m_549 : (Jvm.Cond.privateMethod ({ cls := "DrawSharesModel", name := "isNone", desc := "()Z" } : Jvm.MethodName)) ∈ lw_tbl := List.mem_of_getElem? (i := 549) (by decide +kernel)
theorem m_550 : (Jvm.Cond.instanceMethod ({ cls := "DrawSharesModel", name := "isNone", desc := "()Z" } : Jvm.MethodName)) ∈ lw_tbl := List.mem_of_getElem? (i := 550) (by decide +kernel)
theorem m_551 : (Jvm.Cond.code ({ cls := "DrawSharesModel", name := "isNone", desc := "()Z" } : Jvm.MethodName) prog_6_method_15_code (1 : Nat) (Option.some Jvm.ClassFile.FieldType.boolean)) ∈ lw_tbl := List.mem_of_getElem? (i := 551) (by decide +kernel)
theorem m_552 : (Jvm.Cond.methodLink "DrawSharesLaw" (101 : Nat) ({ cls := "DrawSharesModel", name := "many", desc := "()I" } : Jvm.MethodName)) ∈ lw_tbl := List.mem_of_getElem? (i := 552) (by decide +kernel)
theorem m_553 : (Jvm.Cond.instanceMethod ({ cls := "DrawSharesModel", name := "many", desc := "()I" } : Jvm.MethodName)) ∈ lw_tbl := List.mem_of_getElem? (i := 553) (by decide +kernel)
theorem m_554 : (Jvm.Cond.selects "DrawSharesModel" ({ cls := "DrawSharesModel", name := "many", desc := "()I" } : Jvm.MethodName) ({ cls := "DrawSharesModel", name := "many", desc := "()I" } : Jvm.MethodName)) ∈ lw_tbl := List.mem_of_getElem? (i := 554) (by decide +kernel)
theorem m_555 : (Jvm.Cond.code ({ cls := "DrawSharesModel", name := "many", desc := "()I" } : Jvm.MethodName) prog_6_method_17_code (1 : Nat) (Option.some Jvm.ClassFile.FieldType.int)) ∈ lw_tbl := List.mem_of_getElem? (i := 555) (by decide +kernel)
theorem m_556 : (Jvm.Cond.methodLink "DrawSharesLaw" (104 : Nat) ({ cls := "DrawSharesModel", name := "value", desc := "(I)I" } : Jvm.MethodName)) ∈ lw_tbl := List.mem_of_getElem? (i := 556) (by decide +kernel)
theorem m_557 : (Jvm.Cond.instanceMethod ({ cls := "DrawSharesModel", name := "value", desc := "(I)I" } : Jvm.MethodName)) ∈ lw_tbl := List.mem_of_getElem? (i := 557) (by decide +kernel)
theorem m_558 : (Jvm.Cond.selects "DrawSharesModel" ({ cls := "DrawSharesModel", name := "value", desc := "(I)I" } : Jvm.MethodName) ({ cls := "DrawSharesModel", name := "value", desc := "(I)I" } : Jvm.MethodName)) ∈ lw_tbl := List.mem_of_getElem? (i := 558) (by decide +kernel)
theorem m_559 : (Jvm.Cond.code ({ cls := "DrawSharesModel", name := "value", desc := "(I)I" } : Jvm.MethodName) prog_6_method_19_code (2 : Nat) (Option.some Jvm.ClassFile.FieldType.int)) ∈ lw_tbl := List.mem_of_getElem? (i := 559) (by decide +kernel)
theorem m_560 : (Jvm.Cond.methodLink "DrawSharesModel" (113 : Nat) ({ cls := "DrawSharesModel", name := "isRefused", desc := "(Z)Z" } : Jvm.MethodName)) ∈ lw_tbl := List.mem_of_getElem? (i := 560) (by decide +kernel)
theorem m_561 : (Jvm.Cond.privateMethod ({ cls := "DrawSharesModel", name := "isRefused", desc := "(Z)Z" } : Jvm.MethodName)) ∈ lw_tbl := List.mem_of_getElem? (i := 561) (by decide +kernel)
theorem m_562 : (Jvm.Cond.instanceMethod ({ cls := "DrawSharesModel", name := "isRefused", desc := "(Z)Z" } : Jvm.MethodName)) ∈ lw_tbl := List.mem_of_getElem? (i := 562) (by decide +kernel)
theorem m_563 : (Jvm.Cond.code ({ cls := "DrawSharesModel", name := "isRefused", desc := "(Z)Z" } : Jvm.MethodName) prog_6_method_18_code (2 : Nat) (Option.some Jvm.ClassFile.FieldType.boolean)) ∈ lw_tbl := List.mem_of_getElem? (i := 563) (by decide +kernel)
theorem m_564 : (Jvm.Cond.methodLink "DrawSharesLaw" (107 : Nat) ({ cls := "DrawSharesModel", name := "chain", desc := "(II)J" } : Jvm.MethodName)) ∈ lw_tbl := List.mem_of_getElem? (i := 564) (by decide +kernel)
theorem m_565 : (Jvm.Cond.instanceMethod ({ cls := "DrawSharesModel", name := "chain", desc := "(II)J" } : Jvm.MethodName)) ∈ lw_tbl := List.mem_of_getElem? (i := 565) (by decide +kernel)
theorem m_566 : (Jvm.Cond.selects "DrawSharesModel" ({ cls := "DrawSharesModel", name := "chain", desc := "(II)J" } : Jvm.MethodName) ({ cls := "DrawSharesModel", name := "chain", desc := "(II)J" } : Jvm.MethodName)) ∈ lw_tbl := List.mem_of_getElem? (i := 566) (by decide +kernel)
theorem m_567 : (Jvm.Cond.code ({ cls := "DrawSharesModel", name := "chain", desc := "(II)J" } : Jvm.MethodName) prog_6_method_20_code (3 : Nat) (Option.some Jvm.ClassFile.FieldType.long)) ∈ lw_tbl := List.mem_of_getElem? (i := 567) (by decide +kernel)
theorem m_568 : (Jvm.Cond.methodLink "DrawSharesLaw" (110 : Nat) ({ cls := "DrawSharesModel", name := "came", desc := "(I)I" } : Jvm.MethodName)) ∈ lw_tbl := List.mem_of_getElem? (i := 568) (by decide +kernel)
theorem m_569 : (Jvm.Cond.instanceMethod ({ cls := "DrawSharesModel", name := "came", desc := "(I)I" } : Jvm.MethodName)) ∈ lw_tbl := List.mem_of_getElem? (i := 569) (by decide +kernel)
theorem m_570 : (Jvm.Cond.selects "DrawSharesModel" ({ cls := "DrawSharesModel", name := "came", desc := "(I)I" } : Jvm.MethodName) ({ cls := "DrawSharesModel", name := "came", desc := "(I)I" } : Jvm.MethodName)) ∈ lw_tbl := List.mem_of_getElem? (i := 570) (by decide +kernel)
theorem m_571 : (Jvm.Cond.code ({ cls := "DrawSharesModel", name := "came", desc := "(I)I" } : Jvm.MethodName) prog_6_method_21_code (2 : Nat) (Option.some Jvm.ClassFile.FieldType.int)) ∈ lw_tbl := List.mem_of_getElem? (i := 571) (by decide +kernel)
theorem m_572 : (Jvm.Cond.methodLink "DrawSharesLaw" (113 : Nat) ({ cls := "DrawSharesModel", name := "begun", desc := "(I)I" } : Jvm.MethodName)) ∈ lw_tbl := List.mem_of_getElem? (i := 572) (by decide +kernel)
theorem m_573 : (Jvm.Cond.instanceMethod ({ cls := "DrawSharesModel", name := "begun", desc := "(I)I" } : Jvm.MethodName)) ∈ lw_tbl := List.mem_of_getElem? (i := 573) (by decide +kernel)
theorem m_574 : (Jvm.Cond.selects "DrawSharesModel" ({ cls := "DrawSharesModel", name := "begun", desc := "(I)I" } : Jvm.MethodName) ({ cls := "DrawSharesModel", name := "begun", desc := "(I)I" } : Jvm.MethodName)) ∈ lw_tbl := List.mem_of_getElem? (i := 574) (by decide +kernel)
theorem m_575 : (Jvm.Cond.code ({ cls := "DrawSharesModel", name := "begun", desc := "(I)I" } : Jvm.MethodName) prog_6_method_22_code (2 : Nat) (Option.some Jvm.ClassFile.FieldType.int)) ∈ lw_tbl := List.mem_of_getElem? (i := 575) (by decide +kernel)
theorem m_576 : (Jvm.Cond.methodLink "DrawSharesLaw" (116 : Nat) ({ cls := "DrawSharesModel", name := "steps", desc := "(I)I" } : Jvm.MethodName)) ∈ lw_tbl := List.mem_of_getElem? (i := 576) (by decide +kernel)
theorem m_577 : (Jvm.Cond.instanceMethod ({ cls := "DrawSharesModel", name := "steps", desc := "(I)I" } : Jvm.MethodName)) ∈ lw_tbl := List.mem_of_getElem? (i := 577) (by decide +kernel)
theorem m_578 : (Jvm.Cond.selects "DrawSharesModel" ({ cls := "DrawSharesModel", name := "steps", desc := "(I)I" } : Jvm.MethodName) ({ cls := "DrawSharesModel", name := "steps", desc := "(I)I" } : Jvm.MethodName)) ∈ lw_tbl := List.mem_of_getElem? (i := 578) (by decide +kernel)
theorem m_579 : (Jvm.Cond.code ({ cls := "DrawSharesModel", name := "steps", desc := "(I)I" } : Jvm.MethodName) prog_6_method_23_code (2 : Nat) (Option.some Jvm.ClassFile.FieldType.int)) ∈ lw_tbl := List.mem_of_getElem? (i := 579) (by decide +kernel)
theorem m_580 : (Jvm.Cond.methodLink "DrawSharesLaw" (119 : Nat) ({ cls := "DrawSharesModel", name := "count", desc := "(I)I" } : Jvm.MethodName)) ∈ lw_tbl := List.mem_of_getElem? (i := 580) (by decide +kernel)
theorem m_581 : (Jvm.Cond.instanceMethod ({ cls := "DrawSharesModel", name := "count", desc := "(I)I" } : Jvm.MethodName)) ∈ lw_tbl := List.mem_of_getElem? (i := 581) (by decide +kernel)
theorem m_582 : (Jvm.Cond.selects "DrawSharesModel" ({ cls := "DrawSharesModel", name := "count", desc := "(I)I" } : Jvm.MethodName) ({ cls := "DrawSharesModel", name := "count", desc := "(I)I" } : Jvm.MethodName)) ∈ lw_tbl := List.mem_of_getElem? (i := 582) (by decide +kernel)
theorem m_583 : (Jvm.Cond.code ({ cls := "DrawSharesModel", name := "count", desc := "(I)I" } : Jvm.MethodName) prog_6_method_24_code (2 : Nat) (Option.some Jvm.ClassFile.FieldType.int)) ∈ lw_tbl := List.mem_of_getElem? (i := 583) (by decide +kernel)
theorem m_584 : (Jvm.Cond.arrayClass Jvm.ClassFile.FieldType.long) ∈ lw_tbl := List.mem_of_getElem? (i := 584) (by decide +kernel)
theorem m_585 : (Jvm.Cond.sameMethod "java/lang/Throwable" "java/lang/Throwable" "fillInStackTrace" "(I)Ljava/lang/Throwable;") ∈ lw_tbl := List.mem_of_getElem? (i := 585) (by decide +kernel)
end
section
theorem dL_cell_0 : decode cL_cell 0 = .ok (.iload_n 1, 1) := by decide +kernel
theorem dL_cell_1 : decode cL_cell 1 = .ok (.aload_n 0, 1) := by decide +kernel
theorem dL_cell_2 : decode cL_cell 2 = .ok (.arraylength, 1) := by decide +kernel
theorem dL_cell_3 : decode cL_cell 3 = .ok (.if_icmp .ge 9, 3) := by decide +kernel
theorem dL_cell_6 : decode cL_cell 6 = .ok (.aload_n 0, 1) := by decide +kernel
theorem dL_cell_7 : decode cL_cell 7 = .ok (.iload_n 1, 1) := by decide +kernel
theorem dL_cell_8 : decode cL_cell 8 = .ok (.iaload, 1) := by decide +kernel
theorem dL_cell_9 : decode cL_cell 9 = .ok (.goto 4, 3) := by decide +kernel
theorem dL_cell_12 : decode cL_cell 12 = .ok (.iconst 0, 1) := by decide +kernel
theorem dL_cell_13 : decode cL_cell 13 = .ok (.ireturn, 1) := by decide +kernel
theorem dL_share_0 : decode cL_share 0 = .ok (.aload 5, 2) := by decide +kernel
theorem dL_share_2 : decode cL_share 2 = .ok (.iconst 0, 1) := by decide +kernel
theorem dL_share_3 : decode cL_share 3 = .ok (.aload_n 0, 1) := by decide +kernel
theorem dL_share_4 : decode cL_share 4 = .ok (.iload_n 1, 1) := by decide +kernel
theorem dL_share_5 : decode cL_share 5 = .ok (.iload_n 2, 1) := by decide +kernel
theorem dL_share_6 : decode cL_share 6 = .ok (.iload_n 3, 1) := by decide +kernel
theorem dL_share_7 : decode cL_share 7 = .ok (.iload 4, 2) := by decide +kernel
theorem dL_share_9 : decode cL_share 9 = .ok (.invokevirtual 7, 3) := by decide +kernel
theorem dL_share_12 : decode cL_share 12 = .ok (.i2l, 1) := by decide +kernel
theorem dL_share_13 : decode cL_share 13 = .ok (.lastore, 1) := by decide +kernel
theorem dL_share_14 : decode cL_share 14 = .ok (.goto 11, 3) := by decide +kernel
theorem dL_share_17 : decode cL_share 17 = .ok (.astore 6, 2) := by decide +kernel
theorem dL_share_19 : decode cL_share 19 = .ok (.iconst 1, 1) := by decide +kernel
theorem dL_share_20 : decode cL_share 20 = .ok (.ireturn, 1) := by decide +kernel
theorem dL_share_21 : decode cL_share 21 = .ok (.astore 6, 2) := by decide +kernel
theorem dL_share_23 : decode cL_share 23 = .ok (.iconst 2, 1) := by decide +kernel
theorem dL_share_24 : decode cL_share 24 = .ok (.ireturn, 1) := by decide +kernel
theorem dL_share_25 : decode cL_share 25 = .ok (.iconst 0, 1) := by decide +kernel
theorem dL_share_26 : decode cL_share 26 = .ok (.ireturn, 1) := by decide +kernel
theorem dL_fails_0 : decode cL_fails 0 = .ok (.aload 4, 2) := by decide +kernel
theorem dL_fails_2 : decode cL_fails 2 = .ok (.iconst 0, 1) := by decide +kernel
theorem dL_fails_3 : decode cL_fails 3 = .ok (.aload_n 0, 1) := by decide +kernel
theorem dL_fails_4 : decode cL_fails 4 = .ok (.iload_n 1, 1) := by decide +kernel
theorem dL_fails_5 : decode cL_fails 5 = .ok (.iload_n 2, 1) := by decide +kernel
theorem dL_fails_6 : decode cL_fails 6 = .ok (.iload_n 3, 1) := by decide +kernel
theorem dL_fails_7 : decode cL_fails 7 = .ok (.invokevirtual 17, 3) := by decide +kernel
theorem dL_fails_10 : decode cL_fails 10 = .ok (.i2l, 1) := by decide +kernel
theorem dL_fails_11 : decode cL_fails 11 = .ok (.lastore, 1) := by decide +kernel
theorem dL_fails_12 : decode cL_fails 12 = .ok (.goto 11, 3) := by decide +kernel
theorem dL_fails_15 : decode cL_fails 15 = .ok (.astore 5, 2) := by decide +kernel
theorem dL_fails_17 : decode cL_fails 17 = .ok (.iconst 1, 1) := by decide +kernel
theorem dL_fails_18 : decode cL_fails 18 = .ok (.ireturn, 1) := by decide +kernel
theorem dL_fails_19 : decode cL_fails 19 = .ok (.astore 5, 2) := by decide +kernel
theorem dL_fails_21 : decode cL_fails 21 = .ok (.iconst 2, 1) := by decide +kernel
theorem dL_fails_22 : decode cL_fails 22 = .ok (.ireturn, 1) := by decide +kernel
theorem dL_fails_23 : decode cL_fails 23 = .ok (.iconst 0, 1) := by decide +kernel
theorem dL_fails_24 : decode cL_fails 24 = .ok (.ireturn, 1) := by decide +kernel
theorem dL_act_0 : decode cL_act 0 = .ok (.aload_n 3, 1) := by decide +kernel
theorem dL_act_1 : decode cL_act 1 = .ok (.iconst 0, 1) := by decide +kernel
theorem dL_act_2 : decode cL_act 2 = .ok (.aload_n 0, 1) := by decide +kernel
theorem dL_act_3 : decode cL_act 3 = .ok (.iload_n 1, 1) := by decide +kernel
theorem dL_act_4 : decode cL_act 4 = .ok (.iload_n 2, 1) := by decide +kernel
theorem dL_act_5 : decode cL_act 5 = .ok (.invokevirtual 21, 3) := by decide +kernel
theorem dL_act_8 : decode cL_act 8 = .ok (.i2l, 1) := by decide +kernel
theorem dL_act_9 : decode cL_act 9 = .ok (.lastore, 1) := by decide +kernel
theorem dL_act_10 : decode cL_act 10 = .ok (.goto 11, 3) := by decide +kernel
theorem dL_act_13 : decode cL_act 13 = .ok (.astore 4, 2) := by decide +kernel
theorem dL_act_15 : decode cL_act 15 = .ok (.iconst 1, 1) := by decide +kernel
theorem dL_act_16 : decode cL_act 16 = .ok (.ireturn, 1) := by decide +kernel
theorem dL_act_17 : decode cL_act 17 = .ok (.astore 4, 2) := by decide +kernel
theorem dL_act_19 : decode cL_act 19 = .ok (.iconst 2, 1) := by decide +kernel
theorem dL_act_20 : decode cL_act 20 = .ok (.ireturn, 1) := by decide +kernel
theorem dL_act_21 : decode cL_act 21 = .ok (.iconst 0, 1) := by decide +kernel
theorem dL_act_22 : decode cL_act 22 = .ok (.ireturn, 1) := by decide +kernel
theorem dL_stop_0 : decode cL_stop 0 = .ok (.aload_n 2, 1) := by decide +kernel
theorem dL_stop_1 : decode cL_stop 1 = .ok (.iconst 0, 1) := by decide +kernel
theorem dL_stop_2 : decode cL_stop 2 = .ok (.aload_n 0, 1) := by decide +kernel
theorem dL_stop_3 : decode cL_stop 3 = .ok (.iload_n 1, 1) := by decide +kernel
theorem dL_stop_4 : decode cL_stop 4 = .ok (.invokevirtual 27, 3) := by decide +kernel
theorem dL_stop_7 : decode cL_stop 7 = .ok (.i2l, 1) := by decide +kernel
theorem dL_stop_8 : decode cL_stop 8 = .ok (.lastore, 1) := by decide +kernel
theorem dL_stop_9 : decode cL_stop 9 = .ok (.goto 6, 3) := by decide +kernel
theorem dL_stop_12 : decode cL_stop 12 = .ok (.astore_n 3, 1) := by decide +kernel
theorem dL_stop_13 : decode cL_stop 13 = .ok (.iconst 1, 1) := by decide +kernel
theorem dL_stop_14 : decode cL_stop 14 = .ok (.ireturn, 1) := by decide +kernel
theorem dL_stop_15 : decode cL_stop 15 = .ok (.iconst 0, 1) := by decide +kernel
theorem dL_stop_16 : decode cL_stop 16 = .ok (.ireturn, 1) := by decide +kernel
theorem dL_run_0 : decode cL_run 0 = .ok (.aload_n 3, 1) := by decide +kernel
theorem dL_run_1 : decode cL_run 1 = .ok (.iconst 0, 1) := by decide +kernel
theorem dL_run_2 : decode cL_run 2 = .ok (.aload_n 0, 1) := by decide +kernel
theorem dL_run_3 : decode cL_run 3 = .ok (.iload_n 1, 1) := by decide +kernel
theorem dL_run_4 : decode cL_run 4 = .ok (.iload_n 2, 1) := by decide +kernel
theorem dL_run_5 : decode cL_run 5 = .ok (.invokevirtual 31, 3) := by decide +kernel
theorem dL_run_8 : decode cL_run 8 = .ok (.i2l, 1) := by decide +kernel
theorem dL_run_9 : decode cL_run 9 = .ok (.lastore, 1) := by decide +kernel
theorem dL_run_10 : decode cL_run 10 = .ok (.goto 7, 3) := by decide +kernel
theorem dL_run_13 : decode cL_run 13 = .ok (.astore 4, 2) := by decide +kernel
theorem dL_run_15 : decode cL_run 15 = .ok (.iconst 1, 1) := by decide +kernel
theorem dL_run_16 : decode cL_run 16 = .ok (.ireturn, 1) := by decide +kernel
theorem dL_run_17 : decode cL_run 17 = .ok (.iconst 0, 1) := by decide +kernel
theorem dL_run_18 : decode cL_run 18 = .ok (.ireturn, 1) := by decide +kernel
theorem dL_joined_0 : decode cL_joined 0 = .ok (.aload_n 1, 1) := by decide +kernel
theorem dL_joined_1 : decode cL_joined 1 = .ok (.iconst 0, 1) := by decide +kernel
theorem dL_joined_2 : decode cL_joined 2 = .ok (.aload_n 0, 1) := by decide +kernel
theorem dL_joined_3 : decode cL_joined 3 = .ok (.invokevirtual 34, 3) := by decide +kernel
theorem dL_joined_6 : decode cL_joined 6 = .ok (.lastore, 1) := by decide +kernel
theorem dL_joined_7 : decode cL_joined 7 = .ok (.goto 6, 3) := by decide +kernel
theorem dL_joined_10 : decode cL_joined 10 = .ok (.astore_n 2, 1) := by decide +kernel
theorem dL_joined_11 : decode cL_joined 11 = .ok (.iconst 1, 1) := by decide +kernel
theorem dL_joined_12 : decode cL_joined 12 = .ok (.ireturn, 1) := by decide +kernel
theorem dL_joined_13 : decode cL_joined 13 = .ok (.iconst 0, 1) := by decide +kernel
theorem dL_joined_14 : decode cL_joined 14 = .ok (.ireturn, 1) := by decide +kernel
theorem dL_many_0 : decode cL_many 0 = .ok (.aload_n 1, 1) := by decide +kernel
theorem dL_many_1 : decode cL_many 1 = .ok (.iconst 0, 1) := by decide +kernel
theorem dL_many_2 : decode cL_many 2 = .ok (.aload_n 0, 1) := by decide +kernel
theorem dL_many_3 : decode cL_many 3 = .ok (.invokevirtual 38, 3) := by decide +kernel
theorem dL_many_6 : decode cL_many 6 = .ok (.i2l, 1) := by decide +kernel
theorem dL_many_7 : decode cL_many 7 = .ok (.lastore, 1) := by decide +kernel
theorem dL_many_8 : decode cL_many 8 = .ok (.goto 6, 3) := by decide +kernel
theorem dL_many_11 : decode cL_many 11 = .ok (.astore_n 2, 1) := by decide +kernel
theorem dL_many_12 : decode cL_many 12 = .ok (.iconst 1, 1) := by decide +kernel
theorem dL_many_13 : decode cL_many 13 = .ok (.ireturn, 1) := by decide +kernel
theorem dL_many_14 : decode cL_many 14 = .ok (.iconst 0, 1) := by decide +kernel
theorem dL_many_15 : decode cL_many 15 = .ok (.ireturn, 1) := by decide +kernel
theorem dL_value_0 : decode cL_value 0 = .ok (.aload_n 2, 1) := by decide +kernel
theorem dL_value_1 : decode cL_value 1 = .ok (.iconst 0, 1) := by decide +kernel
theorem dL_value_2 : decode cL_value 2 = .ok (.aload_n 0, 1) := by decide +kernel
theorem dL_value_3 : decode cL_value 3 = .ok (.iload_n 1, 1) := by decide +kernel
theorem dL_value_4 : decode cL_value 4 = .ok (.invokevirtual 42, 3) := by decide +kernel
theorem dL_value_7 : decode cL_value 7 = .ok (.i2l, 1) := by decide +kernel
theorem dL_value_8 : decode cL_value 8 = .ok (.lastore, 1) := by decide +kernel
theorem dL_value_9 : decode cL_value 9 = .ok (.goto 9, 3) := by decide +kernel
theorem dL_value_12 : decode cL_value 12 = .ok (.astore_n 3, 1) := by decide +kernel
theorem dL_value_13 : decode cL_value 13 = .ok (.iconst 1, 1) := by decide +kernel
theorem dL_value_14 : decode cL_value 14 = .ok (.ireturn, 1) := by decide +kernel
theorem dL_value_15 : decode cL_value 15 = .ok (.astore_n 3, 1) := by decide +kernel
theorem dL_value_16 : decode cL_value 16 = .ok (.iconst 2, 1) := by decide +kernel
theorem dL_value_17 : decode cL_value 17 = .ok (.ireturn, 1) := by decide +kernel
theorem dL_value_18 : decode cL_value 18 = .ok (.iconst 0, 1) := by decide +kernel
theorem dL_value_19 : decode cL_value 19 = .ok (.ireturn, 1) := by decide +kernel
theorem dL_chain_0 : decode cL_chain 0 = .ok (.aload_n 3, 1) := by decide +kernel
theorem dL_chain_1 : decode cL_chain 1 = .ok (.iconst 0, 1) := by decide +kernel
theorem dL_chain_2 : decode cL_chain 2 = .ok (.aload_n 0, 1) := by decide +kernel
theorem dL_chain_3 : decode cL_chain 3 = .ok (.iload_n 1, 1) := by decide +kernel
theorem dL_chain_4 : decode cL_chain 4 = .ok (.iload_n 2, 1) := by decide +kernel
theorem dL_chain_5 : decode cL_chain 5 = .ok (.invokevirtual 45, 3) := by decide +kernel
theorem dL_chain_8 : decode cL_chain 8 = .ok (.lastore, 1) := by decide +kernel
theorem dL_chain_9 : decode cL_chain 9 = .ok (.goto 7, 3) := by decide +kernel
theorem dL_chain_12 : decode cL_chain 12 = .ok (.astore 4, 2) := by decide +kernel
theorem dL_chain_14 : decode cL_chain 14 = .ok (.iconst 1, 1) := by decide +kernel
theorem dL_chain_15 : decode cL_chain 15 = .ok (.ireturn, 1) := by decide +kernel
theorem dL_chain_16 : decode cL_chain 16 = .ok (.iconst 0, 1) := by decide +kernel
theorem dL_chain_17 : decode cL_chain 17 = .ok (.ireturn, 1) := by decide +kernel
theorem dL_came_0 : decode cL_came 0 = .ok (.aload_n 2, 1) := by decide +kernel
theorem dL_came_1 : decode cL_came 1 = .ok (.iconst 0, 1) := by decide +kernel
theorem dL_came_2 : decode cL_came 2 = .ok (.aload_n 0, 1) := by decide +kernel
theorem dL_came_3 : decode cL_came 3 = .ok (.iload_n 1, 1) := by decide +kernel
theorem dL_came_4 : decode cL_came 4 = .ok (.invokevirtual 49, 3) := by decide +kernel
theorem dL_came_7 : decode cL_came 7 = .ok (.i2l, 1) := by decide +kernel
theorem dL_came_8 : decode cL_came 8 = .ok (.lastore, 1) := by decide +kernel
theorem dL_came_9 : decode cL_came 9 = .ok (.goto 9, 3) := by decide +kernel
theorem dL_came_12 : decode cL_came 12 = .ok (.astore_n 3, 1) := by decide +kernel
theorem dL_came_13 : decode cL_came 13 = .ok (.iconst 1, 1) := by decide +kernel
theorem dL_came_14 : decode cL_came 14 = .ok (.ireturn, 1) := by decide +kernel
theorem dL_came_15 : decode cL_came 15 = .ok (.astore_n 3, 1) := by decide +kernel
theorem dL_came_16 : decode cL_came 16 = .ok (.iconst 2, 1) := by decide +kernel
theorem dL_came_17 : decode cL_came 17 = .ok (.ireturn, 1) := by decide +kernel
theorem dL_came_18 : decode cL_came 18 = .ok (.iconst 0, 1) := by decide +kernel
theorem dL_came_19 : decode cL_came 19 = .ok (.ireturn, 1) := by decide +kernel
theorem dL_begun_0 : decode cL_begun 0 = .ok (.aload_n 2, 1) := by decide +kernel
theorem dL_begun_1 : decode cL_begun 1 = .ok (.iconst 0, 1) := by decide +kernel
theorem dL_begun_2 : decode cL_begun 2 = .ok (.aload_n 0, 1) := by decide +kernel
theorem dL_begun_3 : decode cL_begun 3 = .ok (.iload_n 1, 1) := by decide +kernel
theorem dL_begun_4 : decode cL_begun 4 = .ok (.invokevirtual 52, 3) := by decide +kernel
theorem dL_begun_7 : decode cL_begun 7 = .ok (.i2l, 1) := by decide +kernel
theorem dL_begun_8 : decode cL_begun 8 = .ok (.lastore, 1) := by decide +kernel
theorem dL_begun_9 : decode cL_begun 9 = .ok (.goto 9, 3) := by decide +kernel
theorem dL_begun_12 : decode cL_begun 12 = .ok (.astore_n 3, 1) := by decide +kernel
theorem dL_begun_13 : decode cL_begun 13 = .ok (.iconst 1, 1) := by decide +kernel
theorem dL_begun_14 : decode cL_begun 14 = .ok (.ireturn, 1) := by decide +kernel
theorem dL_begun_15 : decode cL_begun 15 = .ok (.astore_n 3, 1) := by decide +kernel
theorem dL_begun_16 : decode cL_begun 16 = .ok (.iconst 2, 1) := by decide +kernel
theorem dL_begun_17 : decode cL_begun 17 = .ok (.ireturn, 1) := by decide +kernel
theorem dL_begun_18 : decode cL_begun 18 = .ok (.iconst 0, 1) := by decide +kernel
theorem dL_begun_19 : decode cL_begun 19 = .ok (.ireturn, 1) := by decide +kernel
theorem dL_steps_0 : decode cL_steps 0 = .ok (.aload_n 2, 1) := by decide +kernel
theorem dL_steps_1 : decode cL_steps 1 = .ok (.iconst 0, 1) := by decide +kernel
theorem dL_steps_2 : decode cL_steps 2 = .ok (.aload_n 0, 1) := by decide +kernel
theorem dL_steps_3 : decode cL_steps 3 = .ok (.iload_n 1, 1) := by decide +kernel
theorem dL_steps_4 : decode cL_steps 4 = .ok (.invokevirtual 55, 3) := by decide +kernel
theorem dL_steps_7 : decode cL_steps 7 = .ok (.i2l, 1) := by decide +kernel
theorem dL_steps_8 : decode cL_steps 8 = .ok (.lastore, 1) := by decide +kernel
theorem dL_steps_9 : decode cL_steps 9 = .ok (.goto 9, 3) := by decide +kernel
theorem dL_steps_12 : decode cL_steps 12 = .ok (.astore_n 3, 1) := by decide +kernel
theorem dL_steps_13 : decode cL_steps 13 = .ok (.iconst 1, 1) := by decide +kernel
theorem dL_steps_14 : decode cL_steps 14 = .ok (.ireturn, 1) := by decide +kernel
theorem dL_steps_15 : decode cL_steps 15 = .ok (.astore_n 3, 1) := by decide +kernel
theorem dL_steps_16 : decode cL_steps 16 = .ok (.iconst 2, 1) := by decide +kernel
theorem dL_steps_17 : decode cL_steps 17 = .ok (.ireturn, 1) := by decide +kernel
theorem dL_steps_18 : decode cL_steps 18 = .ok (.iconst 0, 1) := by decide +kernel
theorem dL_steps_19 : decode cL_steps 19 = .ok (.ireturn, 1) := by decide +kernel
theorem dL_count_0 : decode cL_count 0 = .ok (.aload_n 2, 1) := by decide +kernel
theorem dL_count_1 : decode cL_count 1 = .ok (.iconst 0, 1) := by decide +kernel
theorem dL_count_2 : decode cL_count 2 = .ok (.aload_n 0, 1) := by decide +kernel
theorem dL_count_3 : decode cL_count 3 = .ok (.iload_n 1, 1) := by decide +kernel
theorem dL_count_4 : decode cL_count 4 = .ok (.invokevirtual 58, 3) := by decide +kernel
theorem dL_count_7 : decode cL_count 7 = .ok (.i2l, 1) := by decide +kernel
theorem dL_count_8 : decode cL_count 8 = .ok (.lastore, 1) := by decide +kernel
theorem dL_count_9 : decode cL_count 9 = .ok (.goto 6, 3) := by decide +kernel
theorem dL_count_12 : decode cL_count 12 = .ok (.astore_n 3, 1) := by decide +kernel
theorem dL_count_13 : decode cL_count 13 = .ok (.iconst 1, 1) := by decide +kernel
theorem dL_count_14 : decode cL_count 14 = .ok (.ireturn, 1) := by decide +kernel
theorem dL_count_15 : decode cL_count 15 = .ok (.iconst 0, 1) := by decide +kernel
theorem dL_count_16 : decode cL_count 16 = .ok (.ireturn, 1) := by decide +kernel
theorem dL_law_0 : decode cL_law 0 = .ok (.new 8, 3) := by decide +kernel
theorem dL_law_3 : decode cL_law 3 = .ok (.dup, 1) := by decide +kernel
theorem dL_law_4 : decode cL_law 4 = .ok (.aload_n 0, 1) := by decide +kernel
theorem dL_law_5 : decode cL_law 5 = .ok (.iconst 0, 1) := by decide +kernel
theorem dL_law_6 : decode cL_law 6 = .ok (.invokestatic 61, 3) := by decide +kernel
theorem dL_law_9 : decode cL_law 9 = .ok (.invokespecial 67, 3) := by decide +kernel
theorem dL_law_12 : decode cL_law 12 = .ok (.astore_n 1, 1) := by decide +kernel
theorem dL_law_13 : decode cL_law 13 = .ok (.new 70, 3) := by decide +kernel
theorem dL_law_16 : decode cL_law 16 = .ok (.dup, 1) := by decide +kernel
theorem dL_law_17 : decode cL_law 17 = .ok (.aload_n 0, 1) := by decide +kernel
theorem dL_law_18 : decode cL_law 18 = .ok (.iconst 0, 1) := by decide +kernel
theorem dL_law_19 : decode cL_law 19 = .ok (.invokestatic 61, 3) := by decide +kernel
theorem dL_law_22 : decode cL_law 22 = .ok (.invokespecial 72, 3) := by decide +kernel
theorem dL_law_25 : decode cL_law 25 = .ok (.astore_n 2, 1) := by decide +kernel
theorem dL_law_26 : decode cL_law 26 = .ok (.iconst 1, 1) := by decide +kernel
theorem dL_law_27 : decode cL_law 27 = .ok (.newarray .long, 2) := by decide +kernel
theorem dL_law_29 : decode cL_law 29 = .ok (.astore_n 3, 1) := by decide +kernel
theorem dL_law_30 : decode cL_law 30 = .ok (.iconst 1, 1) := by decide +kernel
theorem dL_law_31 : decode cL_law 31 = .ok (.istore 4, 2) := by decide +kernel
theorem dL_law_33 : decode cL_law 33 = .ok (.iload 4, 2) := by decide +kernel
theorem dL_law_35 : decode cL_law 35 = .ok (.aload_n 0, 1) := by decide +kernel
theorem dL_law_36 : decode cL_law 36 = .ok (.arraylength, 1) := by decide +kernel
theorem dL_law_37 : decode cL_law 37 = .ok (.iconst 5, 1) := by decide +kernel
theorem dL_law_38 : decode cL_law 38 = .ok (.isub, 1) := by decide +kernel
theorem dL_law_39 : decode cL_law 39 = .ok (.if_icmp .gt 881, 3) := by decide +kernel
theorem dL_law_42 : decode cL_law 42 = .ok (.aload_n 0, 1) := by decide +kernel
theorem dL_law_43 : decode cL_law 43 = .ok (.iload 4, 2) := by decide +kernel
theorem dL_law_45 : decode cL_law 45 = .ok (.iaload, 1) := by decide +kernel
theorem dL_law_46 : decode cL_law 46 = .ok (.bipush 15, 2) := by decide +kernel
theorem dL_law_48 : decode cL_law 48 = .ok (.iand, 1) := by decide +kernel
theorem dL_law_49 : decode cL_law 49 = .ok (.tableswitch 865 0 12 #[67, 159, 239, 307, 363, 431, 474, 518, 574, 641, 697, 753, 809], 67) := by decide +kernel
theorem dL_law_116 : decode cL_law 116 = .ok (.aload_n 1, 1) := by decide +kernel
theorem dL_law_117 : decode cL_law 117 = .ok (.aload_n 0, 1) := by decide +kernel
theorem dL_law_118 : decode cL_law 118 = .ok (.iload 4, 2) := by decide +kernel
theorem dL_law_120 : decode cL_law 120 = .ok (.iconst 1, 1) := by decide +kernel
theorem dL_law_121 : decode cL_law 121 = .ok (.iadd, 1) := by decide +kernel
theorem dL_law_122 : decode cL_law 122 = .ok (.iaload, 1) := by decide +kernel
theorem dL_law_123 : decode cL_law 123 = .ok (.aload_n 0, 1) := by decide +kernel
theorem dL_law_124 : decode cL_law 124 = .ok (.iload 4, 2) := by decide +kernel
theorem dL_law_126 : decode cL_law 126 = .ok (.iconst 2, 1) := by decide +kernel
theorem dL_law_127 : decode cL_law 127 = .ok (.iadd, 1) := by decide +kernel
theorem dL_law_128 : decode cL_law 128 = .ok (.iaload, 1) := by decide +kernel
theorem dL_law_129 : decode cL_law 129 = .ok (.aload_n 0, 1) := by decide +kernel
theorem dL_law_130 : decode cL_law 130 = .ok (.iload 4, 2) := by decide +kernel
theorem dL_law_132 : decode cL_law 132 = .ok (.iconst 3, 1) := by decide +kernel
theorem dL_law_133 : decode cL_law 133 = .ok (.iadd, 1) := by decide +kernel
theorem dL_law_134 : decode cL_law 134 = .ok (.iaload, 1) := by decide +kernel
theorem dL_law_135 : decode cL_law 135 = .ok (.aload_n 0, 1) := by decide +kernel
theorem dL_law_136 : decode cL_law 136 = .ok (.iload 4, 2) := by decide +kernel
theorem dL_law_138 : decode cL_law 138 = .ok (.iconst 4, 1) := by decide +kernel
theorem dL_law_139 : decode cL_law 139 = .ok (.iadd, 1) := by decide +kernel
theorem dL_law_140 : decode cL_law 140 = .ok (.iaload, 1) := by decide +kernel
theorem dL_law_141 : decode cL_law 141 = .ok (.aload_n 3, 1) := by decide +kernel
theorem dL_law_142 : decode cL_law 142 = .ok (.invokestatic 73, 3) := by decide +kernel
theorem dL_law_145 : decode cL_law 145 = .ok (.istore 5, 2) := by decide +kernel
theorem dL_law_147 : decode cL_law 147 = .ok (.aload_n 2, 1) := by decide +kernel
theorem dL_law_148 : decode cL_law 148 = .ok (.aload_n 0, 1) := by decide +kernel
theorem dL_law_149 : decode cL_law 149 = .ok (.iload 4, 2) := by decide +kernel
theorem dL_law_151 : decode cL_law 151 = .ok (.iconst 1, 1) := by decide +kernel
theorem dL_law_152 : decode cL_law 152 = .ok (.iadd, 1) := by decide +kernel
theorem dL_law_153 : decode cL_law 153 = .ok (.iaload, 1) := by decide +kernel
theorem dL_law_154 : decode cL_law 154 = .ok (.aload_n 0, 1) := by decide +kernel
theorem dL_law_155 : decode cL_law 155 = .ok (.iload 4, 2) := by decide +kernel
theorem dL_law_157 : decode cL_law 157 = .ok (.iconst 2, 1) := by decide +kernel
theorem dL_law_158 : decode cL_law 158 = .ok (.iadd, 1) := by decide +kernel
theorem dL_law_159 : decode cL_law 159 = .ok (.iaload, 1) := by decide +kernel
theorem dL_law_160 : decode cL_law 160 = .ok (.aload_n 0, 1) := by decide +kernel
theorem dL_law_161 : decode cL_law 161 = .ok (.iload 4, 2) := by decide +kernel
theorem dL_law_163 : decode cL_law 163 = .ok (.iconst 3, 1) := by decide +kernel
theorem dL_law_164 : decode cL_law 164 = .ok (.iadd, 1) := by decide +kernel
theorem dL_law_165 : decode cL_law 165 = .ok (.iaload, 1) := by decide +kernel
theorem dL_law_166 : decode cL_law 166 = .ok (.aload_n 0, 1) := by decide +kernel
theorem dL_law_167 : decode cL_law 167 = .ok (.iload 4, 2) := by decide +kernel
theorem dL_law_169 : decode cL_law 169 = .ok (.iconst 4, 1) := by decide +kernel
theorem dL_law_170 : decode cL_law 170 = .ok (.iadd, 1) := by decide +kernel
theorem dL_law_171 : decode cL_law 171 = .ok (.iaload, 1) := by decide +kernel
theorem dL_law_172 : decode cL_law 172 = .ok (.invokevirtual 76, 3) := by decide +kernel
theorem dL_law_175 : decode cL_law 175 = .ok (.istore 6, 2) := by decide +kernel
theorem dL_law_177 : decode cL_law 177 = .ok (.aload_n 2, 1) := by decide +kernel
theorem dL_law_178 : decode cL_law 178 = .ok (.invokevirtual 77, 3) := by decide +kernel
theorem dL_law_181 : decode cL_law 181 = .ok (.iload 5, 2) := by decide +kernel
theorem dL_law_183 : decode cL_law 183 = .ok (.if_icmp .eq 5, 3) := by decide +kernel
theorem dL_law_186 : decode cL_law 186 = .ok (.iconst 0, 1) := by decide +kernel
theorem dL_law_187 : decode cL_law 187 = .ok (.ireturn, 1) := by decide +kernel
theorem dL_law_188 : decode cL_law 188 = .ok (.iload 5, 2) := by decide +kernel
theorem dL_law_190 : decode cL_law 190 = .ok (.ifCond .ne 15, 3) := by decide +kernel
theorem dL_law_193 : decode cL_law 193 = .ok (.aload_n 3, 1) := by decide +kernel
theorem dL_law_194 : decode cL_law 194 = .ok (.iconst 0, 1) := by decide +kernel
theorem dL_law_195 : decode cL_law 195 = .ok (.laload, 1) := by decide +kernel
theorem dL_law_196 : decode cL_law 196 = .ok (.iload 6, 2) := by decide +kernel
theorem dL_law_198 : decode cL_law 198 = .ok (.i2l, 1) := by decide +kernel
theorem dL_law_199 : decode cL_law 199 = .ok (.lcmp, 1) := by decide +kernel
theorem dL_law_200 : decode cL_law 200 = .ok (.ifCond .eq 5, 3) := by decide +kernel
theorem dL_law_203 : decode cL_law 203 = .ok (.iconst 0, 1) := by decide +kernel
theorem dL_law_204 : decode cL_law 204 = .ok (.ireturn, 1) := by decide +kernel
theorem dL_law_205 : decode cL_law 205 = .ok (.goto 709, 3) := by decide +kernel
theorem dL_law_208 : decode cL_law 208 = .ok (.aload_n 1, 1) := by decide +kernel
theorem dL_law_209 : decode cL_law 209 = .ok (.aload_n 0, 1) := by decide +kernel
theorem dL_law_210 : decode cL_law 210 = .ok (.iload 4, 2) := by decide +kernel
theorem dL_law_212 : decode cL_law 212 = .ok (.iconst 1, 1) := by decide +kernel
theorem dL_law_213 : decode cL_law 213 = .ok (.iadd, 1) := by decide +kernel
theorem dL_law_214 : decode cL_law 214 = .ok (.iaload, 1) := by decide +kernel
theorem dL_law_215 : decode cL_law 215 = .ok (.aload_n 0, 1) := by decide +kernel
theorem dL_law_216 : decode cL_law 216 = .ok (.iload 4, 2) := by decide +kernel
theorem dL_law_218 : decode cL_law 218 = .ok (.iconst 2, 1) := by decide +kernel
theorem dL_law_219 : decode cL_law 219 = .ok (.iadd, 1) := by decide +kernel
theorem dL_law_220 : decode cL_law 220 = .ok (.iaload, 1) := by decide +kernel
theorem dL_law_221 : decode cL_law 221 = .ok (.aload_n 0, 1) := by decide +kernel
theorem dL_law_222 : decode cL_law 222 = .ok (.iload 4, 2) := by decide +kernel
theorem dL_law_224 : decode cL_law 224 = .ok (.iconst 3, 1) := by decide +kernel
theorem dL_law_225 : decode cL_law 225 = .ok (.iadd, 1) := by decide +kernel
theorem dL_law_226 : decode cL_law 226 = .ok (.iaload, 1) := by decide +kernel
theorem dL_law_227 : decode cL_law 227 = .ok (.aload_n 3, 1) := by decide +kernel
theorem dL_law_228 : decode cL_law 228 = .ok (.invokestatic 80, 3) := by decide +kernel
theorem dL_law_231 : decode cL_law 231 = .ok (.istore 5, 2) := by decide +kernel
theorem dL_law_233 : decode cL_law 233 = .ok (.aload_n 2, 1) := by decide +kernel
theorem dL_law_234 : decode cL_law 234 = .ok (.aload_n 0, 1) := by decide +kernel
theorem dL_law_235 : decode cL_law 235 = .ok (.iload 4, 2) := by decide +kernel
theorem dL_law_237 : decode cL_law 237 = .ok (.iconst 1, 1) := by decide +kernel
theorem dL_law_238 : decode cL_law 238 = .ok (.iadd, 1) := by decide +kernel
theorem dL_law_239 : decode cL_law 239 = .ok (.iaload, 1) := by decide +kernel
theorem dL_law_240 : decode cL_law 240 = .ok (.aload_n 0, 1) := by decide +kernel
theorem dL_law_241 : decode cL_law 241 = .ok (.iload 4, 2) := by decide +kernel
theorem dL_law_243 : decode cL_law 243 = .ok (.iconst 2, 1) := by decide +kernel
theorem dL_law_244 : decode cL_law 244 = .ok (.iadd, 1) := by decide +kernel
theorem dL_law_245 : decode cL_law 245 = .ok (.iaload, 1) := by decide +kernel
theorem dL_law_246 : decode cL_law 246 = .ok (.aload_n 0, 1) := by decide +kernel
theorem dL_law_247 : decode cL_law 247 = .ok (.iload 4, 2) := by decide +kernel
theorem dL_law_249 : decode cL_law 249 = .ok (.iconst 3, 1) := by decide +kernel
theorem dL_law_250 : decode cL_law 250 = .ok (.iadd, 1) := by decide +kernel
theorem dL_law_251 : decode cL_law 251 = .ok (.iaload, 1) := by decide +kernel
theorem dL_law_252 : decode cL_law 252 = .ok (.invokevirtual 83, 3) := by decide +kernel
theorem dL_law_255 : decode cL_law 255 = .ok (.istore 6, 2) := by decide +kernel
theorem dL_law_257 : decode cL_law 257 = .ok (.aload_n 2, 1) := by decide +kernel
theorem dL_law_258 : decode cL_law 258 = .ok (.invokevirtual 77, 3) := by decide +kernel
theorem dL_law_261 : decode cL_law 261 = .ok (.iload 5, 2) := by decide +kernel
theorem dL_law_263 : decode cL_law 263 = .ok (.if_icmp .eq 5, 3) := by decide +kernel
theorem dL_law_266 : decode cL_law 266 = .ok (.iconst 0, 1) := by decide +kernel
theorem dL_law_267 : decode cL_law 267 = .ok (.ireturn, 1) := by decide +kernel
theorem dL_law_268 : decode cL_law 268 = .ok (.iload 5, 2) := by decide +kernel
theorem dL_law_270 : decode cL_law 270 = .ok (.ifCond .ne 15, 3) := by decide +kernel
theorem dL_law_273 : decode cL_law 273 = .ok (.aload_n 3, 1) := by decide +kernel
theorem dL_law_274 : decode cL_law 274 = .ok (.iconst 0, 1) := by decide +kernel
theorem dL_law_275 : decode cL_law 275 = .ok (.laload, 1) := by decide +kernel
theorem dL_law_276 : decode cL_law 276 = .ok (.iload 6, 2) := by decide +kernel
theorem dL_law_278 : decode cL_law 278 = .ok (.i2l, 1) := by decide +kernel
theorem dL_law_279 : decode cL_law 279 = .ok (.lcmp, 1) := by decide +kernel
theorem dL_law_280 : decode cL_law 280 = .ok (.ifCond .eq 5, 3) := by decide +kernel
theorem dL_law_283 : decode cL_law 283 = .ok (.iconst 0, 1) := by decide +kernel
theorem dL_law_284 : decode cL_law 284 = .ok (.ireturn, 1) := by decide +kernel
theorem dL_law_285 : decode cL_law 285 = .ok (.goto 629, 3) := by decide +kernel
theorem dL_law_288 : decode cL_law 288 = .ok (.aload_n 1, 1) := by decide +kernel
theorem dL_law_289 : decode cL_law 289 = .ok (.aload_n 0, 1) := by decide +kernel
theorem dL_law_290 : decode cL_law 290 = .ok (.iload 4, 2) := by decide +kernel
theorem dL_law_292 : decode cL_law 292 = .ok (.iconst 1, 1) := by decide +kernel
theorem dL_law_293 : decode cL_law 293 = .ok (.iadd, 1) := by decide +kernel
theorem dL_law_294 : decode cL_law 294 = .ok (.iaload, 1) := by decide +kernel
theorem dL_law_295 : decode cL_law 295 = .ok (.aload_n 0, 1) := by decide +kernel
theorem dL_law_296 : decode cL_law 296 = .ok (.iload 4, 2) := by decide +kernel
theorem dL_law_298 : decode cL_law 298 = .ok (.iconst 2, 1) := by decide +kernel
theorem dL_law_299 : decode cL_law 299 = .ok (.iadd, 1) := by decide +kernel
theorem dL_law_300 : decode cL_law 300 = .ok (.iaload, 1) := by decide +kernel
theorem dL_law_301 : decode cL_law 301 = .ok (.aload_n 3, 1) := by decide +kernel
theorem dL_law_302 : decode cL_law 302 = .ok (.invokestatic 84, 3) := by decide +kernel
theorem dL_law_305 : decode cL_law 305 = .ok (.istore 5, 2) := by decide +kernel
theorem dL_law_307 : decode cL_law 307 = .ok (.aload_n 2, 1) := by decide +kernel
theorem dL_law_308 : decode cL_law 308 = .ok (.aload_n 0, 1) := by decide +kernel
theorem dL_law_309 : decode cL_law 309 = .ok (.iload 4, 2) := by decide +kernel
theorem dL_law_311 : decode cL_law 311 = .ok (.iconst 1, 1) := by decide +kernel
theorem dL_law_312 : decode cL_law 312 = .ok (.iadd, 1) := by decide +kernel
theorem dL_law_313 : decode cL_law 313 = .ok (.iaload, 1) := by decide +kernel
theorem dL_law_314 : decode cL_law 314 = .ok (.aload_n 0, 1) := by decide +kernel
theorem dL_law_315 : decode cL_law 315 = .ok (.iload 4, 2) := by decide +kernel
theorem dL_law_317 : decode cL_law 317 = .ok (.iconst 2, 1) := by decide +kernel
theorem dL_law_318 : decode cL_law 318 = .ok (.iadd, 1) := by decide +kernel
theorem dL_law_319 : decode cL_law 319 = .ok (.iaload, 1) := by decide +kernel
theorem dL_law_320 : decode cL_law 320 = .ok (.invokevirtual 87, 3) := by decide +kernel
theorem dL_law_323 : decode cL_law 323 = .ok (.istore 6, 2) := by decide +kernel
theorem dL_law_325 : decode cL_law 325 = .ok (.aload_n 2, 1) := by decide +kernel
theorem dL_law_326 : decode cL_law 326 = .ok (.invokevirtual 77, 3) := by decide +kernel
theorem dL_law_329 : decode cL_law 329 = .ok (.iload 5, 2) := by decide +kernel
theorem dL_law_331 : decode cL_law 331 = .ok (.if_icmp .eq 5, 3) := by decide +kernel
theorem dL_law_334 : decode cL_law 334 = .ok (.iconst 0, 1) := by decide +kernel
theorem dL_law_335 : decode cL_law 335 = .ok (.ireturn, 1) := by decide +kernel
theorem dL_law_336 : decode cL_law 336 = .ok (.iload 5, 2) := by decide +kernel
theorem dL_law_338 : decode cL_law 338 = .ok (.ifCond .ne 15, 3) := by decide +kernel
theorem dL_law_341 : decode cL_law 341 = .ok (.aload_n 3, 1) := by decide +kernel
theorem dL_law_342 : decode cL_law 342 = .ok (.iconst 0, 1) := by decide +kernel
theorem dL_law_343 : decode cL_law 343 = .ok (.laload, 1) := by decide +kernel
theorem dL_law_344 : decode cL_law 344 = .ok (.iload 6, 2) := by decide +kernel
theorem dL_law_346 : decode cL_law 346 = .ok (.i2l, 1) := by decide +kernel
theorem dL_law_347 : decode cL_law 347 = .ok (.lcmp, 1) := by decide +kernel
theorem dL_law_348 : decode cL_law 348 = .ok (.ifCond .eq 5, 3) := by decide +kernel
theorem dL_law_351 : decode cL_law 351 = .ok (.iconst 0, 1) := by decide +kernel
theorem dL_law_352 : decode cL_law 352 = .ok (.ireturn, 1) := by decide +kernel
theorem dL_law_353 : decode cL_law 353 = .ok (.goto 561, 3) := by decide +kernel
end
section
theorem dL_law_356 : decode cL_law 356 = .ok (.aload_n 1, 1) := by decide +kernel
theorem dL_law_357 : decode cL_law 357 = .ok (.aload_n 0, 1) := by decide +kernel
theorem dL_law_358 : decode cL_law 358 = .ok (.iload 4, 2) := by decide +kernel
theorem dL_law_360 : decode cL_law 360 = .ok (.iconst 1, 1) := by decide +kernel
theorem dL_law_361 : decode cL_law 361 = .ok (.iadd, 1) := by decide +kernel
theorem dL_law_362 : decode cL_law 362 = .ok (.iaload, 1) := by decide +kernel
theorem dL_law_363 : decode cL_law 363 = .ok (.aload_n 3, 1) := by decide +kernel
theorem dL_law_364 : decode cL_law 364 = .ok (.invokestatic 88, 3) := by decide +kernel
theorem dL_law_367 : decode cL_law 367 = .ok (.istore 5, 2) := by decide +kernel
theorem dL_law_369 : decode cL_law 369 = .ok (.aload_n 2, 1) := by decide +kernel
theorem dL_law_370 : decode cL_law 370 = .ok (.aload_n 0, 1) := by decide +kernel
theorem dL_law_371 : decode cL_law 371 = .ok (.iload 4, 2) := by decide +kernel
theorem dL_law_373 : decode cL_law 373 = .ok (.iconst 1, 1) := by decide +kernel
theorem dL_law_374 : decode cL_law 374 = .ok (.iadd, 1) := by decide +kernel
theorem dL_law_375 : decode cL_law 375 = .ok (.iaload, 1) := by decide +kernel
theorem dL_law_376 : decode cL_law 376 = .ok (.invokevirtual 91, 3) := by decide +kernel
theorem dL_law_379 : decode cL_law 379 = .ok (.istore 6, 2) := by decide +kernel
theorem dL_law_381 : decode cL_law 381 = .ok (.aload_n 2, 1) := by decide +kernel
theorem dL_law_382 : decode cL_law 382 = .ok (.invokevirtual 77, 3) := by decide +kernel
theorem dL_law_385 : decode cL_law 385 = .ok (.iload 5, 2) := by decide +kernel
theorem dL_law_387 : decode cL_law 387 = .ok (.if_icmp .eq 5, 3) := by decide +kernel
theorem dL_law_390 : decode cL_law 390 = .ok (.iconst 0, 1) := by decide +kernel
theorem dL_law_391 : decode cL_law 391 = .ok (.ireturn, 1) := by decide +kernel
theorem dL_law_392 : decode cL_law 392 = .ok (.iload 5, 2) := by decide +kernel
theorem dL_law_394 : decode cL_law 394 = .ok (.ifCond .ne 15, 3) := by decide +kernel
theorem dL_law_397 : decode cL_law 397 = .ok (.aload_n 3, 1) := by decide +kernel
theorem dL_law_398 : decode cL_law 398 = .ok (.iconst 0, 1) := by decide +kernel
theorem dL_law_399 : decode cL_law 399 = .ok (.laload, 1) := by decide +kernel
theorem dL_law_400 : decode cL_law 400 = .ok (.iload 6, 2) := by decide +kernel
theorem dL_law_402 : decode cL_law 402 = .ok (.i2l, 1) := by decide +kernel
theorem dL_law_403 : decode cL_law 403 = .ok (.lcmp, 1) := by decide +kernel
theorem dL_law_404 : decode cL_law 404 = .ok (.ifCond .eq 5, 3) := by decide +kernel
theorem dL_law_407 : decode cL_law 407 = .ok (.iconst 0, 1) := by decide +kernel
theorem dL_law_408 : decode cL_law 408 = .ok (.ireturn, 1) := by decide +kernel
theorem dL_law_409 : decode cL_law 409 = .ok (.goto 505, 3) := by decide +kernel
theorem dL_law_412 : decode cL_law 412 = .ok (.aload_n 1, 1) := by decide +kernel
theorem dL_law_413 : decode cL_law 413 = .ok (.aload_n 0, 1) := by decide +kernel
theorem dL_law_414 : decode cL_law 414 = .ok (.iload 4, 2) := by decide +kernel
theorem dL_law_416 : decode cL_law 416 = .ok (.iconst 1, 1) := by decide +kernel
theorem dL_law_417 : decode cL_law 417 = .ok (.iadd, 1) := by decide +kernel
theorem dL_law_418 : decode cL_law 418 = .ok (.iaload, 1) := by decide +kernel
theorem dL_law_419 : decode cL_law 419 = .ok (.aload_n 0, 1) := by decide +kernel
theorem dL_law_420 : decode cL_law 420 = .ok (.iload 4, 2) := by decide +kernel
theorem dL_law_422 : decode cL_law 422 = .ok (.iconst 2, 1) := by decide +kernel
theorem dL_law_423 : decode cL_law 423 = .ok (.iadd, 1) := by decide +kernel
theorem dL_law_424 : decode cL_law 424 = .ok (.iaload, 1) := by decide +kernel
theorem dL_law_425 : decode cL_law 425 = .ok (.aload_n 3, 1) := by decide +kernel
theorem dL_law_426 : decode cL_law 426 = .ok (.invokestatic 92, 3) := by decide +kernel
theorem dL_law_429 : decode cL_law 429 = .ok (.istore 5, 2) := by decide +kernel
theorem dL_law_431 : decode cL_law 431 = .ok (.aload_n 2, 1) := by decide +kernel
theorem dL_law_432 : decode cL_law 432 = .ok (.aload_n 0, 1) := by decide +kernel
theorem dL_law_433 : decode cL_law 433 = .ok (.iload 4, 2) := by decide +kernel
theorem dL_law_435 : decode cL_law 435 = .ok (.iconst 1, 1) := by decide +kernel
theorem dL_law_436 : decode cL_law 436 = .ok (.iadd, 1) := by decide +kernel
theorem dL_law_437 : decode cL_law 437 = .ok (.iaload, 1) := by decide +kernel
theorem dL_law_438 : decode cL_law 438 = .ok (.aload_n 0, 1) := by decide +kernel
theorem dL_law_439 : decode cL_law 439 = .ok (.iload 4, 2) := by decide +kernel
theorem dL_law_441 : decode cL_law 441 = .ok (.iconst 2, 1) := by decide +kernel
theorem dL_law_442 : decode cL_law 442 = .ok (.iadd, 1) := by decide +kernel
theorem dL_law_443 : decode cL_law 443 = .ok (.iaload, 1) := by decide +kernel
theorem dL_law_444 : decode cL_law 444 = .ok (.invokevirtual 94, 3) := by decide +kernel
theorem dL_law_447 : decode cL_law 447 = .ok (.istore 6, 2) := by decide +kernel
theorem dL_law_449 : decode cL_law 449 = .ok (.aload_n 2, 1) := by decide +kernel
theorem dL_law_450 : decode cL_law 450 = .ok (.invokevirtual 77, 3) := by decide +kernel
theorem dL_law_453 : decode cL_law 453 = .ok (.iload 5, 2) := by decide +kernel
theorem dL_law_455 : decode cL_law 455 = .ok (.if_icmp .eq 5, 3) := by decide +kernel
theorem dL_law_458 : decode cL_law 458 = .ok (.iconst 0, 1) := by decide +kernel
theorem dL_law_459 : decode cL_law 459 = .ok (.ireturn, 1) := by decide +kernel
theorem dL_law_460 : decode cL_law 460 = .ok (.iload 5, 2) := by decide +kernel
theorem dL_law_462 : decode cL_law 462 = .ok (.ifCond .ne 15, 3) := by decide +kernel
theorem dL_law_465 : decode cL_law 465 = .ok (.aload_n 3, 1) := by decide +kernel
theorem dL_law_466 : decode cL_law 466 = .ok (.iconst 0, 1) := by decide +kernel
theorem dL_law_467 : decode cL_law 467 = .ok (.laload, 1) := by decide +kernel
theorem dL_law_468 : decode cL_law 468 = .ok (.iload 6, 2) := by decide +kernel
theorem dL_law_470 : decode cL_law 470 = .ok (.i2l, 1) := by decide +kernel
theorem dL_law_471 : decode cL_law 471 = .ok (.lcmp, 1) := by decide +kernel
theorem dL_law_472 : decode cL_law 472 = .ok (.ifCond .eq 5, 3) := by decide +kernel
theorem dL_law_475 : decode cL_law 475 = .ok (.iconst 0, 1) := by decide +kernel
theorem dL_law_476 : decode cL_law 476 = .ok (.ireturn, 1) := by decide +kernel
theorem dL_law_477 : decode cL_law 477 = .ok (.goto 437, 3) := by decide +kernel
theorem dL_law_480 : decode cL_law 480 = .ok (.aload_n 1, 1) := by decide +kernel
theorem dL_law_481 : decode cL_law 481 = .ok (.aload_n 3, 1) := by decide +kernel
theorem dL_law_482 : decode cL_law 482 = .ok (.invokestatic 95, 3) := by decide +kernel
theorem dL_law_485 : decode cL_law 485 = .ok (.istore 5, 2) := by decide +kernel
theorem dL_law_487 : decode cL_law 487 = .ok (.aload_n 2, 1) := by decide +kernel
theorem dL_law_488 : decode cL_law 488 = .ok (.invokevirtual 98, 3) := by decide +kernel
theorem dL_law_491 : decode cL_law 491 = .ok (.lstore 6, 2) := by decide +kernel
theorem dL_law_493 : decode cL_law 493 = .ok (.aload_n 2, 1) := by decide +kernel
theorem dL_law_494 : decode cL_law 494 = .ok (.invokevirtual 77, 3) := by decide +kernel
theorem dL_law_497 : decode cL_law 497 = .ok (.iload 5, 2) := by decide +kernel
theorem dL_law_499 : decode cL_law 499 = .ok (.if_icmp .eq 5, 3) := by decide +kernel
theorem dL_law_502 : decode cL_law 502 = .ok (.iconst 0, 1) := by decide +kernel
theorem dL_law_503 : decode cL_law 503 = .ok (.ireturn, 1) := by decide +kernel
theorem dL_law_504 : decode cL_law 504 = .ok (.iload 5, 2) := by decide +kernel
theorem dL_law_506 : decode cL_law 506 = .ok (.ifCond .ne 14, 3) := by decide +kernel
theorem dL_law_509 : decode cL_law 509 = .ok (.aload_n 3, 1) := by decide +kernel
theorem dL_law_510 : decode cL_law 510 = .ok (.iconst 0, 1) := by decide +kernel
theorem dL_law_511 : decode cL_law 511 = .ok (.laload, 1) := by decide +kernel
theorem dL_law_512 : decode cL_law 512 = .ok (.lload 6, 2) := by decide +kernel
theorem dL_law_514 : decode cL_law 514 = .ok (.lcmp, 1) := by decide +kernel
theorem dL_law_515 : decode cL_law 515 = .ok (.ifCond .eq 5, 3) := by decide +kernel
theorem dL_law_518 : decode cL_law 518 = .ok (.iconst 0, 1) := by decide +kernel
theorem dL_law_519 : decode cL_law 519 = .ok (.ireturn, 1) := by decide +kernel
theorem dL_law_520 : decode cL_law 520 = .ok (.goto 394, 3) := by decide +kernel
theorem dL_law_523 : decode cL_law 523 = .ok (.aload_n 1, 1) := by decide +kernel
theorem dL_law_524 : decode cL_law 524 = .ok (.aload_n 3, 1) := by decide +kernel
theorem dL_law_525 : decode cL_law 525 = .ok (.invokestatic 99, 3) := by decide +kernel
theorem dL_law_528 : decode cL_law 528 = .ok (.istore 5, 2) := by decide +kernel
theorem dL_law_530 : decode cL_law 530 = .ok (.aload_n 2, 1) := by decide +kernel
theorem dL_law_531 : decode cL_law 531 = .ok (.invokevirtual 101, 3) := by decide +kernel
theorem dL_law_534 : decode cL_law 534 = .ok (.istore 6, 2) := by decide +kernel
theorem dL_law_536 : decode cL_law 536 = .ok (.aload_n 2, 1) := by decide +kernel
theorem dL_law_537 : decode cL_law 537 = .ok (.invokevirtual 77, 3) := by decide +kernel
theorem dL_law_540 : decode cL_law 540 = .ok (.iload 5, 2) := by decide +kernel
theorem dL_law_542 : decode cL_law 542 = .ok (.if_icmp .eq 5, 3) := by decide +kernel
theorem dL_law_545 : decode cL_law 545 = .ok (.iconst 0, 1) := by decide +kernel
theorem dL_law_546 : decode cL_law 546 = .ok (.ireturn, 1) := by decide +kernel
theorem dL_law_547 : decode cL_law 547 = .ok (.iload 5, 2) := by decide +kernel
theorem dL_law_549 : decode cL_law 549 = .ok (.ifCond .ne 15, 3) := by decide +kernel
theorem dL_law_552 : decode cL_law 552 = .ok (.aload_n 3, 1) := by decide +kernel
theorem dL_law_553 : decode cL_law 553 = .ok (.iconst 0, 1) := by decide +kernel
theorem dL_law_554 : decode cL_law 554 = .ok (.laload, 1) := by decide +kernel
theorem dL_law_555 : decode cL_law 555 = .ok (.iload 6, 2) := by decide +kernel
theorem dL_law_557 : decode cL_law 557 = .ok (.i2l, 1) := by decide +kernel
theorem dL_law_558 : decode cL_law 558 = .ok (.lcmp, 1) := by decide +kernel
theorem dL_law_559 : decode cL_law 559 = .ok (.ifCond .eq 5, 3) := by decide +kernel
theorem dL_law_562 : decode cL_law 562 = .ok (.iconst 0, 1) := by decide +kernel
theorem dL_law_563 : decode cL_law 563 = .ok (.ireturn, 1) := by decide +kernel
theorem dL_law_564 : decode cL_law 564 = .ok (.goto 350, 3) := by decide +kernel
theorem dL_law_567 : decode cL_law 567 = .ok (.aload_n 1, 1) := by decide +kernel
theorem dL_law_568 : decode cL_law 568 = .ok (.aload_n 0, 1) := by decide +kernel
theorem dL_law_569 : decode cL_law 569 = .ok (.iload 4, 2) := by decide +kernel
theorem dL_law_571 : decode cL_law 571 = .ok (.iconst 1, 1) := by decide +kernel
theorem dL_law_572 : decode cL_law 572 = .ok (.iadd, 1) := by decide +kernel
theorem dL_law_573 : decode cL_law 573 = .ok (.iaload, 1) := by decide +kernel
theorem dL_law_574 : decode cL_law 574 = .ok (.aload_n 3, 1) := by decide +kernel
theorem dL_law_575 : decode cL_law 575 = .ok (.invokestatic 102, 3) := by decide +kernel
theorem dL_law_578 : decode cL_law 578 = .ok (.istore 5, 2) := by decide +kernel
theorem dL_law_580 : decode cL_law 580 = .ok (.aload_n 2, 1) := by decide +kernel
theorem dL_law_581 : decode cL_law 581 = .ok (.aload_n 0, 1) := by decide +kernel
theorem dL_law_582 : decode cL_law 582 = .ok (.iload 4, 2) := by decide +kernel
theorem dL_law_584 : decode cL_law 584 = .ok (.iconst 1, 1) := by decide +kernel
theorem dL_law_585 : decode cL_law 585 = .ok (.iadd, 1) := by decide +kernel
theorem dL_law_586 : decode cL_law 586 = .ok (.iaload, 1) := by decide +kernel
theorem dL_law_587 : decode cL_law 587 = .ok (.invokevirtual 104, 3) := by decide +kernel
theorem dL_law_590 : decode cL_law 590 = .ok (.istore 6, 2) := by decide +kernel
theorem dL_law_592 : decode cL_law 592 = .ok (.aload_n 2, 1) := by decide +kernel
theorem dL_law_593 : decode cL_law 593 = .ok (.invokevirtual 77, 3) := by decide +kernel
theorem dL_law_596 : decode cL_law 596 = .ok (.iload 5, 2) := by decide +kernel
theorem dL_law_598 : decode cL_law 598 = .ok (.if_icmp .eq 5, 3) := by decide +kernel
theorem dL_law_601 : decode cL_law 601 = .ok (.iconst 0, 1) := by decide +kernel
theorem dL_law_602 : decode cL_law 602 = .ok (.ireturn, 1) := by decide +kernel
theorem dL_law_603 : decode cL_law 603 = .ok (.iload 5, 2) := by decide +kernel
theorem dL_law_605 : decode cL_law 605 = .ok (.ifCond .ne 15, 3) := by decide +kernel
theorem dL_law_608 : decode cL_law 608 = .ok (.aload_n 3, 1) := by decide +kernel
theorem dL_law_609 : decode cL_law 609 = .ok (.iconst 0, 1) := by decide +kernel
theorem dL_law_610 : decode cL_law 610 = .ok (.laload, 1) := by decide +kernel
theorem dL_law_611 : decode cL_law 611 = .ok (.iload 6, 2) := by decide +kernel
theorem dL_law_613 : decode cL_law 613 = .ok (.i2l, 1) := by decide +kernel
theorem dL_law_614 : decode cL_law 614 = .ok (.lcmp, 1) := by decide +kernel
theorem dL_law_615 : decode cL_law 615 = .ok (.ifCond .eq 5, 3) := by decide +kernel
theorem dL_law_618 : decode cL_law 618 = .ok (.iconst 0, 1) := by decide +kernel
theorem dL_law_619 : decode cL_law 619 = .ok (.ireturn, 1) := by decide +kernel
theorem dL_law_620 : decode cL_law 620 = .ok (.goto 294, 3) := by decide +kernel
theorem dL_law_623 : decode cL_law 623 = .ok (.aload_n 1, 1) := by decide +kernel
theorem dL_law_624 : decode cL_law 624 = .ok (.aload_n 0, 1) := by decide +kernel
theorem dL_law_625 : decode cL_law 625 = .ok (.iload 4, 2) := by decide +kernel
theorem dL_law_627 : decode cL_law 627 = .ok (.iconst 1, 1) := by decide +kernel
theorem dL_law_628 : decode cL_law 628 = .ok (.iadd, 1) := by decide +kernel
theorem dL_law_629 : decode cL_law 629 = .ok (.iaload, 1) := by decide +kernel
theorem dL_law_630 : decode cL_law 630 = .ok (.aload_n 0, 1) := by decide +kernel
theorem dL_law_631 : decode cL_law 631 = .ok (.iload 4, 2) := by decide +kernel
theorem dL_law_633 : decode cL_law 633 = .ok (.iconst 2, 1) := by decide +kernel
theorem dL_law_634 : decode cL_law 634 = .ok (.iadd, 1) := by decide +kernel
theorem dL_law_635 : decode cL_law 635 = .ok (.iaload, 1) := by decide +kernel
theorem dL_law_636 : decode cL_law 636 = .ok (.aload_n 3, 1) := by decide +kernel
theorem dL_law_637 : decode cL_law 637 = .ok (.invokestatic 105, 3) := by decide +kernel
theorem dL_law_640 : decode cL_law 640 = .ok (.istore 5, 2) := by decide +kernel
theorem dL_law_642 : decode cL_law 642 = .ok (.aload_n 2, 1) := by decide +kernel
theorem dL_law_643 : decode cL_law 643 = .ok (.aload_n 0, 1) := by decide +kernel
theorem dL_law_644 : decode cL_law 644 = .ok (.iload 4, 2) := by decide +kernel
theorem dL_law_646 : decode cL_law 646 = .ok (.iconst 1, 1) := by decide +kernel
theorem dL_law_647 : decode cL_law 647 = .ok (.iadd, 1) := by decide +kernel
theorem dL_law_648 : decode cL_law 648 = .ok (.iaload, 1) := by decide +kernel
theorem dL_law_649 : decode cL_law 649 = .ok (.aload_n 0, 1) := by decide +kernel
theorem dL_law_650 : decode cL_law 650 = .ok (.iload 4, 2) := by decide +kernel
theorem dL_law_652 : decode cL_law 652 = .ok (.iconst 2, 1) := by decide +kernel
theorem dL_law_653 : decode cL_law 653 = .ok (.iadd, 1) := by decide +kernel
theorem dL_law_654 : decode cL_law 654 = .ok (.iaload, 1) := by decide +kernel
theorem dL_law_655 : decode cL_law 655 = .ok (.invokevirtual 107, 3) := by decide +kernel
theorem dL_law_658 : decode cL_law 658 = .ok (.lstore 6, 2) := by decide +kernel
theorem dL_law_660 : decode cL_law 660 = .ok (.aload_n 2, 1) := by decide +kernel
theorem dL_law_661 : decode cL_law 661 = .ok (.invokevirtual 77, 3) := by decide +kernel
theorem dL_law_664 : decode cL_law 664 = .ok (.iload 5, 2) := by decide +kernel
theorem dL_law_666 : decode cL_law 666 = .ok (.if_icmp .eq 5, 3) := by decide +kernel
theorem dL_law_669 : decode cL_law 669 = .ok (.iconst 0, 1) := by decide +kernel
theorem dL_law_670 : decode cL_law 670 = .ok (.ireturn, 1) := by decide +kernel
theorem dL_law_671 : decode cL_law 671 = .ok (.iload 5, 2) := by decide +kernel
theorem dL_law_673 : decode cL_law 673 = .ok (.ifCond .ne 14, 3) := by decide +kernel
theorem dL_law_676 : decode cL_law 676 = .ok (.aload_n 3, 1) := by decide +kernel
theorem dL_law_677 : decode cL_law 677 = .ok (.iconst 0, 1) := by decide +kernel
theorem dL_law_678 : decode cL_law 678 = .ok (.laload, 1) := by decide +kernel
theorem dL_law_679 : decode cL_law 679 = .ok (.lload 6, 2) := by decide +kernel
theorem dL_law_681 : decode cL_law 681 = .ok (.lcmp, 1) := by decide +kernel
theorem dL_law_682 : decode cL_law 682 = .ok (.ifCond .eq 5, 3) := by decide +kernel
theorem dL_law_685 : decode cL_law 685 = .ok (.iconst 0, 1) := by decide +kernel
theorem dL_law_686 : decode cL_law 686 = .ok (.ireturn, 1) := by decide +kernel
theorem dL_law_687 : decode cL_law 687 = .ok (.goto 227, 3) := by decide +kernel
theorem dL_law_690 : decode cL_law 690 = .ok (.aload_n 1, 1) := by decide +kernel
theorem dL_law_691 : decode cL_law 691 = .ok (.aload_n 0, 1) := by decide +kernel
theorem dL_law_692 : decode cL_law 692 = .ok (.iload 4, 2) := by decide +kernel
theorem dL_law_694 : decode cL_law 694 = .ok (.iconst 1, 1) := by decide +kernel
theorem dL_law_695 : decode cL_law 695 = .ok (.iadd, 1) := by decide +kernel
theorem dL_law_696 : decode cL_law 696 = .ok (.iaload, 1) := by decide +kernel
theorem dL_law_697 : decode cL_law 697 = .ok (.aload_n 3, 1) := by decide +kernel
theorem dL_law_698 : decode cL_law 698 = .ok (.invokestatic 108, 3) := by decide +kernel
theorem dL_law_701 : decode cL_law 701 = .ok (.istore 5, 2) := by decide +kernel
theorem dL_law_703 : decode cL_law 703 = .ok (.aload_n 2, 1) := by decide +kernel
theorem dL_law_704 : decode cL_law 704 = .ok (.aload_n 0, 1) := by decide +kernel
theorem dL_law_705 : decode cL_law 705 = .ok (.iload 4, 2) := by decide +kernel
theorem dL_law_707 : decode cL_law 707 = .ok (.iconst 1, 1) := by decide +kernel
theorem dL_law_708 : decode cL_law 708 = .ok (.iadd, 1) := by decide +kernel
theorem dL_law_709 : decode cL_law 709 = .ok (.iaload, 1) := by decide +kernel
theorem dL_law_710 : decode cL_law 710 = .ok (.invokevirtual 110, 3) := by decide +kernel
theorem dL_law_713 : decode cL_law 713 = .ok (.istore 6, 2) := by decide +kernel
theorem dL_law_715 : decode cL_law 715 = .ok (.aload_n 2, 1) := by decide +kernel
theorem dL_law_716 : decode cL_law 716 = .ok (.invokevirtual 77, 3) := by decide +kernel
theorem dL_law_719 : decode cL_law 719 = .ok (.iload 5, 2) := by decide +kernel
theorem dL_law_721 : decode cL_law 721 = .ok (.if_icmp .eq 5, 3) := by decide +kernel
theorem dL_law_724 : decode cL_law 724 = .ok (.iconst 0, 1) := by decide +kernel
theorem dL_law_725 : decode cL_law 725 = .ok (.ireturn, 1) := by decide +kernel
theorem dL_law_726 : decode cL_law 726 = .ok (.iload 5, 2) := by decide +kernel
theorem dL_law_728 : decode cL_law 728 = .ok (.ifCond .ne 15, 3) := by decide +kernel
theorem dL_law_731 : decode cL_law 731 = .ok (.aload_n 3, 1) := by decide +kernel
theorem dL_law_732 : decode cL_law 732 = .ok (.iconst 0, 1) := by decide +kernel
theorem dL_law_733 : decode cL_law 733 = .ok (.laload, 1) := by decide +kernel
theorem dL_law_734 : decode cL_law 734 = .ok (.iload 6, 2) := by decide +kernel
theorem dL_law_736 : decode cL_law 736 = .ok (.i2l, 1) := by decide +kernel
theorem dL_law_737 : decode cL_law 737 = .ok (.lcmp, 1) := by decide +kernel
theorem dL_law_738 : decode cL_law 738 = .ok (.ifCond .eq 5, 3) := by decide +kernel
theorem dL_law_741 : decode cL_law 741 = .ok (.iconst 0, 1) := by decide +kernel
theorem dL_law_742 : decode cL_law 742 = .ok (.ireturn, 1) := by decide +kernel
theorem dL_law_743 : decode cL_law 743 = .ok (.goto 171, 3) := by decide +kernel
theorem dL_law_746 : decode cL_law 746 = .ok (.aload_n 1, 1) := by decide +kernel
theorem dL_law_747 : decode cL_law 747 = .ok (.aload_n 0, 1) := by decide +kernel
theorem dL_law_748 : decode cL_law 748 = .ok (.iload 4, 2) := by decide +kernel
theorem dL_law_750 : decode cL_law 750 = .ok (.iconst 1, 1) := by decide +kernel
theorem dL_law_751 : decode cL_law 751 = .ok (.iadd, 1) := by decide +kernel
theorem dL_law_752 : decode cL_law 752 = .ok (.iaload, 1) := by decide +kernel
theorem dL_law_753 : decode cL_law 753 = .ok (.aload_n 3, 1) := by decide +kernel
theorem dL_law_754 : decode cL_law 754 = .ok (.invokestatic 111, 3) := by decide +kernel
theorem dL_law_757 : decode cL_law 757 = .ok (.istore 5, 2) := by decide +kernel
theorem dL_law_759 : decode cL_law 759 = .ok (.aload_n 2, 1) := by decide +kernel
theorem dL_law_760 : decode cL_law 760 = .ok (.aload_n 0, 1) := by decide +kernel
theorem dL_law_761 : decode cL_law 761 = .ok (.iload 4, 2) := by decide +kernel
theorem dL_law_763 : decode cL_law 763 = .ok (.iconst 1, 1) := by decide +kernel
theorem dL_law_764 : decode cL_law 764 = .ok (.iadd, 1) := by decide +kernel
theorem dL_law_765 : decode cL_law 765 = .ok (.iaload, 1) := by decide +kernel
theorem dL_law_766 : decode cL_law 766 = .ok (.invokevirtual 113, 3) := by decide +kernel
theorem dL_law_769 : decode cL_law 769 = .ok (.istore 6, 2) := by decide +kernel
theorem dL_law_771 : decode cL_law 771 = .ok (.aload_n 2, 1) := by decide +kernel
theorem dL_law_772 : decode cL_law 772 = .ok (.invokevirtual 77, 3) := by decide +kernel
theorem dL_law_775 : decode cL_law 775 = .ok (.iload 5, 2) := by decide +kernel
theorem dL_law_777 : decode cL_law 777 = .ok (.if_icmp .eq 5, 3) := by decide +kernel
theorem dL_law_780 : decode cL_law 780 = .ok (.iconst 0, 1) := by decide +kernel
theorem dL_law_781 : decode cL_law 781 = .ok (.ireturn, 1) := by decide +kernel
theorem dL_law_782 : decode cL_law 782 = .ok (.iload 5, 2) := by decide +kernel
theorem dL_law_784 : decode cL_law 784 = .ok (.ifCond .ne 15, 3) := by decide +kernel
theorem dL_law_787 : decode cL_law 787 = .ok (.aload_n 3, 1) := by decide +kernel
theorem dL_law_788 : decode cL_law 788 = .ok (.iconst 0, 1) := by decide +kernel
theorem dL_law_789 : decode cL_law 789 = .ok (.laload, 1) := by decide +kernel
theorem dL_law_790 : decode cL_law 790 = .ok (.iload 6, 2) := by decide +kernel
theorem dL_law_792 : decode cL_law 792 = .ok (.i2l, 1) := by decide +kernel
theorem dL_law_793 : decode cL_law 793 = .ok (.lcmp, 1) := by decide +kernel
theorem dL_law_794 : decode cL_law 794 = .ok (.ifCond .eq 5, 3) := by decide +kernel
theorem dL_law_797 : decode cL_law 797 = .ok (.iconst 0, 1) := by decide +kernel
theorem dL_law_798 : decode cL_law 798 = .ok (.ireturn, 1) := by decide +kernel
theorem dL_law_799 : decode cL_law 799 = .ok (.goto 115, 3) := by decide +kernel
theorem dL_law_802 : decode cL_law 802 = .ok (.aload_n 1, 1) := by decide +kernel
theorem dL_law_803 : decode cL_law 803 = .ok (.aload_n 0, 1) := by decide +kernel
theorem dL_law_804 : decode cL_law 804 = .ok (.iload 4, 2) := by decide +kernel
theorem dL_law_806 : decode cL_law 806 = .ok (.iconst 1, 1) := by decide +kernel
theorem dL_law_807 : decode cL_law 807 = .ok (.iadd, 1) := by decide +kernel
theorem dL_law_808 : decode cL_law 808 = .ok (.iaload, 1) := by decide +kernel
theorem dL_law_809 : decode cL_law 809 = .ok (.aload_n 3, 1) := by decide +kernel
theorem dL_law_810 : decode cL_law 810 = .ok (.invokestatic 114, 3) := by decide +kernel
theorem dL_law_813 : decode cL_law 813 = .ok (.istore 5, 2) := by decide +kernel
theorem dL_law_815 : decode cL_law 815 = .ok (.aload_n 2, 1) := by decide +kernel
theorem dL_law_816 : decode cL_law 816 = .ok (.aload_n 0, 1) := by decide +kernel
theorem dL_law_817 : decode cL_law 817 = .ok (.iload 4, 2) := by decide +kernel
theorem dL_law_819 : decode cL_law 819 = .ok (.iconst 1, 1) := by decide +kernel
theorem dL_law_820 : decode cL_law 820 = .ok (.iadd, 1) := by decide +kernel
theorem dL_law_821 : decode cL_law 821 = .ok (.iaload, 1) := by decide +kernel
theorem dL_law_822 : decode cL_law 822 = .ok (.invokevirtual 116, 3) := by decide +kernel
theorem dL_law_825 : decode cL_law 825 = .ok (.istore 6, 2) := by decide +kernel
theorem dL_law_827 : decode cL_law 827 = .ok (.aload_n 2, 1) := by decide +kernel
theorem dL_law_828 : decode cL_law 828 = .ok (.invokevirtual 77, 3) := by decide +kernel
theorem dL_law_831 : decode cL_law 831 = .ok (.iload 5, 2) := by decide +kernel
theorem dL_law_833 : decode cL_law 833 = .ok (.if_icmp .eq 5, 3) := by decide +kernel
theorem dL_law_836 : decode cL_law 836 = .ok (.iconst 0, 1) := by decide +kernel
theorem dL_law_837 : decode cL_law 837 = .ok (.ireturn, 1) := by decide +kernel
theorem dL_law_838 : decode cL_law 838 = .ok (.iload 5, 2) := by decide +kernel
theorem dL_law_840 : decode cL_law 840 = .ok (.ifCond .ne 15, 3) := by decide +kernel
theorem dL_law_843 : decode cL_law 843 = .ok (.aload_n 3, 1) := by decide +kernel
theorem dL_law_844 : decode cL_law 844 = .ok (.iconst 0, 1) := by decide +kernel
theorem dL_law_845 : decode cL_law 845 = .ok (.laload, 1) := by decide +kernel
theorem dL_law_846 : decode cL_law 846 = .ok (.iload 6, 2) := by decide +kernel
theorem dL_law_848 : decode cL_law 848 = .ok (.i2l, 1) := by decide +kernel
theorem dL_law_849 : decode cL_law 849 = .ok (.lcmp, 1) := by decide +kernel
theorem dL_law_850 : decode cL_law 850 = .ok (.ifCond .eq 5, 3) := by decide +kernel
theorem dL_law_853 : decode cL_law 853 = .ok (.iconst 0, 1) := by decide +kernel
theorem dL_law_854 : decode cL_law 854 = .ok (.ireturn, 1) := by decide +kernel
theorem dL_law_855 : decode cL_law 855 = .ok (.goto 59, 3) := by decide +kernel
theorem dL_law_858 : decode cL_law 858 = .ok (.aload_n 1, 1) := by decide +kernel
theorem dL_law_859 : decode cL_law 859 = .ok (.aload_n 0, 1) := by decide +kernel
theorem dL_law_860 : decode cL_law 860 = .ok (.iload 4, 2) := by decide +kernel
theorem dL_law_862 : decode cL_law 862 = .ok (.iconst 1, 1) := by decide +kernel
theorem dL_law_863 : decode cL_law 863 = .ok (.iadd, 1) := by decide +kernel
theorem dL_law_864 : decode cL_law 864 = .ok (.iaload, 1) := by decide +kernel
theorem dL_law_865 : decode cL_law 865 = .ok (.aload_n 3, 1) := by decide +kernel
theorem dL_law_866 : decode cL_law 866 = .ok (.invokestatic 117, 3) := by decide +kernel
theorem dL_law_869 : decode cL_law 869 = .ok (.istore 5, 2) := by decide +kernel
theorem dL_law_871 : decode cL_law 871 = .ok (.aload_n 2, 1) := by decide +kernel
theorem dL_law_872 : decode cL_law 872 = .ok (.aload_n 0, 1) := by decide +kernel
theorem dL_law_873 : decode cL_law 873 = .ok (.iload 4, 2) := by decide +kernel
theorem dL_law_875 : decode cL_law 875 = .ok (.iconst 1, 1) := by decide +kernel
theorem dL_law_876 : decode cL_law 876 = .ok (.iadd, 1) := by decide +kernel
theorem dL_law_877 : decode cL_law 877 = .ok (.iaload, 1) := by decide +kernel
theorem dL_law_878 : decode cL_law 878 = .ok (.invokevirtual 119, 3) := by decide +kernel
theorem dL_law_881 : decode cL_law 881 = .ok (.istore 6, 2) := by decide +kernel
theorem dL_law_883 : decode cL_law 883 = .ok (.aload_n 2, 1) := by decide +kernel
theorem dL_law_884 : decode cL_law 884 = .ok (.invokevirtual 77, 3) := by decide +kernel
theorem dL_law_887 : decode cL_law 887 = .ok (.iload 5, 2) := by decide +kernel
theorem dL_law_889 : decode cL_law 889 = .ok (.if_icmp .eq 5, 3) := by decide +kernel
theorem dL_law_892 : decode cL_law 892 = .ok (.iconst 0, 1) := by decide +kernel
theorem dL_law_893 : decode cL_law 893 = .ok (.ireturn, 1) := by decide +kernel
theorem dL_law_894 : decode cL_law 894 = .ok (.iload 5, 2) := by decide +kernel
theorem dL_law_896 : decode cL_law 896 = .ok (.ifCond .ne 15, 3) := by decide +kernel
theorem dL_law_899 : decode cL_law 899 = .ok (.aload_n 3, 1) := by decide +kernel
theorem dL_law_900 : decode cL_law 900 = .ok (.iconst 0, 1) := by decide +kernel
theorem dL_law_901 : decode cL_law 901 = .ok (.laload, 1) := by decide +kernel
theorem dL_law_902 : decode cL_law 902 = .ok (.iload 6, 2) := by decide +kernel
theorem dL_law_904 : decode cL_law 904 = .ok (.i2l, 1) := by decide +kernel
theorem dL_law_905 : decode cL_law 905 = .ok (.lcmp, 1) := by decide +kernel
theorem dL_law_906 : decode cL_law 906 = .ok (.ifCond .eq 5, 3) := by decide +kernel
theorem dL_law_909 : decode cL_law 909 = .ok (.iconst 0, 1) := by decide +kernel
theorem dL_law_910 : decode cL_law 910 = .ok (.ireturn, 1) := by decide +kernel
theorem dL_law_911 : decode cL_law 911 = .ok (.goto 3, 3) := by decide +kernel
theorem dL_law_914 : decode cL_law 914 = .ok (.iinc 4 5, 3) := by decide +kernel
theorem dL_law_917 : decode cL_law 917 = .ok (.goto (-884), 3) := by decide +kernel
theorem dL_law_920 : decode cL_law 920 = .ok (.iconst 1, 1) := by decide +kernel
theorem dL_law_921 : decode cL_law 921 = .ok (.ireturn, 1) := by decide +kernel
end
section
theorem dM0_init_0 : decode cM0_init 0 = .ok (.aload_n 0, 1) := by decide +kernel
theorem dM0_init_1 : decode cM0_init 1 = .ok (.invokespecial 1, 3) := by decide +kernel
theorem dM0_init_4 : decode cM0_init 4 = .ok (.aload_n 0, 1) := by decide +kernel
theorem dM0_init_5 : decode cM0_init 5 = .ok (.bipush 40, 2) := by decide +kernel
theorem dM0_init_7 : decode cM0_init 7 = .ok (.newarray .int, 2) := by decide +kernel
theorem dM0_init_9 : decode cM0_init 9 = .ok (.putfield 7, 3) := by decide +kernel
theorem dM0_init_12 : decode cM0_init 12 = .ok (.aload_n 0, 1) := by decide +kernel
theorem dM0_init_13 : decode cM0_init 13 = .ok (.bipush 40, 2) := by decide +kernel
theorem dM0_init_15 : decode cM0_init 15 = .ok (.newarray .int, 2) := by decide +kernel
theorem dM0_init_17 : decode cM0_init 17 = .ok (.putfield 13, 3) := by decide +kernel
theorem dM0_init_20 : decode cM0_init 20 = .ok (.aload_n 0, 1) := by decide +kernel
theorem dM0_init_21 : decode cM0_init 21 = .ok (.bipush 40, 2) := by decide +kernel
theorem dM0_init_23 : decode cM0_init 23 = .ok (.newarray .int, 2) := by decide +kernel
theorem dM0_init_25 : decode cM0_init 25 = .ok (.putfield 16, 3) := by decide +kernel
theorem dM0_init_28 : decode cM0_init 28 = .ok (.aload_n 0, 1) := by decide +kernel
theorem dM0_init_29 : decode cM0_init 29 = .ok (.bipush 40, 2) := by decide +kernel
theorem dM0_init_31 : decode cM0_init 31 = .ok (.newarray .int, 2) := by decide +kernel
theorem dM0_init_33 : decode cM0_init 33 = .ok (.putfield 19, 3) := by decide +kernel
theorem dM0_init_36 : decode cM0_init 36 = .ok (.aload_n 0, 1) := by decide +kernel
theorem dM0_init_37 : decode cM0_init 37 = .ok (.bipush 40, 2) := by decide +kernel
theorem dM0_init_39 : decode cM0_init 39 = .ok (.newarray .int, 2) := by decide +kernel
theorem dM0_init_41 : decode cM0_init 41 = .ok (.putfield 22, 3) := by decide +kernel
theorem dM0_init_44 : decode cM0_init 44 = .ok (.aload_n 0, 1) := by decide +kernel
theorem dM0_init_45 : decode cM0_init 45 = .ok (.bipush 24, 2) := by decide +kernel
theorem dM0_init_47 : decode cM0_init 47 = .ok (.newarray .int, 2) := by decide +kernel
theorem dM0_init_49 : decode cM0_init 49 = .ok (.putfield 25, 3) := by decide +kernel
theorem dM0_init_52 : decode cM0_init 52 = .ok (.aload_n 0, 1) := by decide +kernel
theorem dM0_init_53 : decode cM0_init 53 = .ok (.bipush 24, 2) := by decide +kernel
theorem dM0_init_55 : decode cM0_init 55 = .ok (.newarray .int, 2) := by decide +kernel
theorem dM0_init_57 : decode cM0_init 57 = .ok (.putfield 28, 3) := by decide +kernel
theorem dM0_init_60 : decode cM0_init 60 = .ok (.aload_n 0, 1) := by decide +kernel
theorem dM0_init_61 : decode cM0_init 61 = .ok (.iconst (-1), 1) := by decide +kernel
theorem dM0_init_62 : decode cM0_init 62 = .ok (.putfield 31, 3) := by decide +kernel
theorem dM0_init_65 : decode cM0_init 65 = .ok (.aload_n 0, 1) := by decide +kernel
theorem dM0_init_66 : decode cM0_init 66 = .ok (.bipush 40, 2) := by decide +kernel
theorem dM0_init_68 : decode cM0_init 68 = .ok (.newarray .int, 2) := by decide +kernel
theorem dM0_init_70 : decode cM0_init 70 = .ok (.putfield 35, 3) := by decide +kernel
theorem dM0_init_73 : decode cM0_init 73 = .ok (.aload_n 0, 1) := by decide +kernel
theorem dM0_init_74 : decode cM0_init 74 = .ok (.bipush 40, 2) := by decide +kernel
theorem dM0_init_76 : decode cM0_init 76 = .ok (.newarray .int, 2) := by decide +kernel
theorem dM0_init_78 : decode cM0_init 78 = .ok (.putfield 38, 3) := by decide +kernel
theorem dM0_init_81 : decode cM0_init 81 = .ok (.aload_n 0, 1) := by decide +kernel
theorem dM0_init_82 : decode cM0_init 82 = .ok (.bipush 24, 2) := by decide +kernel
theorem dM0_init_84 : decode cM0_init 84 = .ok (.newarray .int, 2) := by decide +kernel
theorem dM0_init_86 : decode cM0_init 86 = .ok (.putfield 41, 3) := by decide +kernel
theorem dM0_init_89 : decode cM0_init 89 = .ok (.aload_n 0, 1) := by decide +kernel
theorem dM0_init_90 : decode cM0_init 90 = .ok (.iload_n 1, 1) := by decide +kernel
theorem dM0_init_91 : decode cM0_init 91 = .ok (.iconst 1, 1) := by decide +kernel
theorem dM0_init_92 : decode cM0_init 92 = .ok (.if_icmp .ge 7, 3) := by decide +kernel
theorem dM0_init_95 : decode cM0_init 95 = .ok (.iconst 1, 1) := by decide +kernel
theorem dM0_init_96 : decode cM0_init 96 = .ok (.goto 15, 3) := by decide +kernel
theorem dM0_init_99 : decode cM0_init 99 = .ok (.iload_n 1, 1) := by decide +kernel
theorem dM0_init_100 : decode cM0_init 100 = .ok (.bipush 40, 2) := by decide +kernel
theorem dM0_init_102 : decode cM0_init 102 = .ok (.if_icmp .le 8, 3) := by decide +kernel
theorem dM0_init_105 : decode cM0_init 105 = .ok (.bipush 40, 2) := by decide +kernel
theorem dM0_init_107 : decode cM0_init 107 = .ok (.goto 4, 3) := by decide +kernel
theorem dM0_init_110 : decode cM0_init 110 = .ok (.iload_n 1, 1) := by decide +kernel
theorem dM0_init_111 : decode cM0_init 111 = .ok (.putfield 44, 3) := by decide +kernel
theorem dM0_init_114 : decode cM0_init 114 = .ok (.iconst 0, 1) := by decide +kernel
theorem dM0_init_115 : decode cM0_init 115 = .ok (.istore_n 2, 1) := by decide +kernel
theorem dM0_init_116 : decode cM0_init 116 = .ok (.iload_n 2, 1) := by decide +kernel
theorem dM0_init_117 : decode cM0_init 117 = .ok (.bipush 40, 2) := by decide +kernel
theorem dM0_init_119 : decode cM0_init 119 = .ok (.if_icmp .ge 16, 3) := by decide +kernel
theorem dM0_init_122 : decode cM0_init 122 = .ok (.aload_n 0, 1) := by decide +kernel
theorem dM0_init_123 : decode cM0_init 123 = .ok (.getfield 7, 3) := by decide +kernel
theorem dM0_init_126 : decode cM0_init 126 = .ok (.iload_n 2, 1) := by decide +kernel
theorem dM0_init_127 : decode cM0_init 127 = .ok (.iconst 1, 1) := by decide +kernel
theorem dM0_init_128 : decode cM0_init 128 = .ok (.iastore, 1) := by decide +kernel
theorem dM0_init_129 : decode cM0_init 129 = .ok (.iinc 2 1, 3) := by decide +kernel
theorem dM0_init_132 : decode cM0_init 132 = .ok (.goto (-16), 3) := by decide +kernel
theorem dM0_init_135 : decode cM0_init 135 = .ok (.iconst 0, 1) := by decide +kernel
theorem dM0_init_136 : decode cM0_init 136 = .ok (.istore_n 2, 1) := by decide +kernel
theorem dM0_init_137 : decode cM0_init 137 = .ok (.iload_n 2, 1) := by decide +kernel
theorem dM0_init_138 : decode cM0_init 138 = .ok (.bipush 24, 2) := by decide +kernel
theorem dM0_init_140 : decode cM0_init 140 = .ok (.if_icmp .ge 16, 3) := by decide +kernel
theorem dM0_init_143 : decode cM0_init 143 = .ok (.aload_n 0, 1) := by decide +kernel
theorem dM0_init_144 : decode cM0_init 144 = .ok (.getfield 41, 3) := by decide +kernel
theorem dM0_init_147 : decode cM0_init 147 = .ok (.iload_n 2, 1) := by decide +kernel
theorem dM0_init_148 : decode cM0_init 148 = .ok (.iconst (-1), 1) := by decide +kernel
theorem dM0_init_149 : decode cM0_init 149 = .ok (.iastore, 1) := by decide +kernel
theorem dM0_init_150 : decode cM0_init 150 = .ok (.iinc 2 1, 3) := by decide +kernel
theorem dM0_init_153 : decode cM0_init 153 = .ok (.goto (-16), 3) := by decide +kernel
theorem dM0_init_156 : decode cM0_init 156 = .ok (.return_, 1) := by decide +kernel
theorem dM0_thrown_0 : decode cM0_thrown 0 = .ok (.aload_n 0, 1) := by decide +kernel
theorem dM0_thrown_1 : decode cM0_thrown 1 = .ok (.getfield 47, 3) := by decide +kernel
theorem dM0_thrown_4 : decode cM0_thrown 4 = .ok (.ireturn, 1) := by decide +kernel
theorem dM0_refuse_0 : decode cM0_refuse 0 = .ok (.aload_n 0, 1) := by decide +kernel
theorem dM0_refuse_1 : decode cM0_refuse 1 = .ok (.iload_n 1, 1) := by decide +kernel
theorem dM0_refuse_2 : decode cM0_refuse 2 = .ok (.putfield 47, 3) := by decide +kernel
theorem dM0_refuse_5 : decode cM0_refuse 5 = .ok (.iconst 0, 1) := by decide +kernel
theorem dM0_refuse_6 : decode cM0_refuse 6 = .ok (.ireturn, 1) := by decide +kernel
theorem dM0_isShare_0 : decode cM0_isShare 0 = .ok (.iload_n 1, 1) := by decide +kernel
theorem dM0_isShare_1 : decode cM0_isShare 1 = .ok (.ifCond .lt 15, 3) := by decide +kernel
theorem dM0_isShare_4 : decode cM0_isShare 4 = .ok (.iload_n 1, 1) := by decide +kernel
theorem dM0_isShare_5 : decode cM0_isShare 5 = .ok (.aload_n 0, 1) := by decide +kernel
theorem dM0_isShare_6 : decode cM0_isShare 6 = .ok (.getfield 44, 3) := by decide +kernel
theorem dM0_isShare_9 : decode cM0_isShare 9 = .ok (.if_icmp .ge 7, 3) := by decide +kernel
theorem dM0_isShare_12 : decode cM0_isShare 12 = .ok (.iconst 1, 1) := by decide +kernel
theorem dM0_isShare_13 : decode cM0_isShare 13 = .ok (.goto 4, 3) := by decide +kernel
theorem dM0_isShare_16 : decode cM0_isShare 16 = .ok (.iconst 0, 1) := by decide +kernel
theorem dM0_isShare_17 : decode cM0_isShare 17 = .ok (.ireturn, 1) := by decide +kernel
theorem dM0_in_0 : decode cM0_in 0 = .ok (.iload_n 0, 1) := by decide +kernel
theorem dM0_in_1 : decode cM0_in 1 = .ok (.iload_n 1, 1) := by decide +kernel
theorem dM0_in_2 : decode cM0_in 2 = .ok (.if_icmp .lt 12, 3) := by decide +kernel
theorem dM0_in_5 : decode cM0_in 5 = .ok (.iload_n 0, 1) := by decide +kernel
theorem dM0_in_6 : decode cM0_in 6 = .ok (.iload_n 2, 1) := by decide +kernel
theorem dM0_in_7 : decode cM0_in 7 = .ok (.if_icmp .gt 7, 3) := by decide +kernel
theorem dM0_in_10 : decode cM0_in 10 = .ok (.iconst 1, 1) := by decide +kernel
theorem dM0_in_11 : decode cM0_in 11 = .ok (.goto 4, 3) := by decide +kernel
theorem dM0_in_14 : decode cM0_in 14 = .ok (.iconst 0, 1) := by decide +kernel
theorem dM0_in_15 : decode cM0_in 15 = .ok (.ireturn, 1) := by decide +kernel
theorem dM0_share_0 : decode cM0_share 0 = .ok (.aload_n 0, 1) := by decide +kernel
theorem dM0_share_1 : decode cM0_share 1 = .ok (.iload_n 1, 1) := by decide +kernel
theorem dM0_share_2 : decode cM0_share 2 = .ok (.invokevirtual 50, 3) := by decide +kernel
theorem dM0_share_5 : decode cM0_share 5 = .ok (.ifCond .ne 9, 3) := by decide +kernel
theorem dM0_share_8 : decode cM0_share 8 = .ok (.aload_n 0, 1) := by decide +kernel
theorem dM0_share_9 : decode cM0_share 9 = .ok (.iconst 1, 1) := by decide +kernel
theorem dM0_share_10 : decode cM0_share 10 = .ok (.invokevirtual 54, 3) := by decide +kernel
theorem dM0_share_13 : decode cM0_share 13 = .ok (.ireturn, 1) := by decide +kernel
theorem dM0_share_14 : decode cM0_share 14 = .ok (.iload_n 2, 1) := by decide +kernel
theorem dM0_share_15 : decode cM0_share 15 = .ok (.iconst 1, 1) := by decide +kernel
theorem dM0_share_16 : decode cM0_share 16 = .ok (.bipush 30, 2) := by decide +kernel
theorem dM0_share_18 : decode cM0_share 18 = .ok (.invokestatic 58, 3) := by decide +kernel
theorem dM0_share_21 : decode cM0_share 21 = .ok (.ifCond .eq 14, 3) := by decide +kernel
theorem dM0_share_24 : decode cM0_share 24 = .ok (.iload 4, 2) := by decide +kernel
theorem dM0_share_26 : decode cM0_share 26 = .ok (.iconst 0, 1) := by decide +kernel
theorem dM0_share_27 : decode cM0_share 27 = .ok (.bipush 8, 2) := by decide +kernel
theorem dM0_share_29 : decode cM0_share 29 = .ok (.invokestatic 58, 3) := by decide +kernel
theorem dM0_share_32 : decode cM0_share 32 = .ok (.ifCond .ne 9, 3) := by decide +kernel
theorem dM0_share_35 : decode cM0_share 35 = .ok (.aload_n 0, 1) := by decide +kernel
theorem dM0_share_36 : decode cM0_share 36 = .ok (.iconst 2, 1) := by decide +kernel
theorem dM0_share_37 : decode cM0_share 37 = .ok (.invokevirtual 54, 3) := by decide +kernel
theorem dM0_share_40 : decode cM0_share 40 = .ok (.ireturn, 1) := by decide +kernel
theorem dM0_share_41 : decode cM0_share 41 = .ok (.aload_n 0, 1) := by decide +kernel
theorem dM0_share_42 : decode cM0_share 42 = .ok (.iconst 0, 1) := by decide +kernel
theorem dM0_share_43 : decode cM0_share 43 = .ok (.putfield 47, 3) := by decide +kernel
theorem dM0_share_46 : decode cM0_share 46 = .ok (.aload_n 0, 1) := by decide +kernel
theorem dM0_share_47 : decode cM0_share 47 = .ok (.getfield 7, 3) := by decide +kernel
theorem dM0_share_50 : decode cM0_share 50 = .ok (.iload_n 1, 1) := by decide +kernel
theorem dM0_share_51 : decode cM0_share 51 = .ok (.iaload, 1) := by decide +kernel
theorem dM0_share_52 : decode cM0_share 52 = .ok (.istore 5, 2) := by decide +kernel
theorem dM0_share_54 : decode cM0_share 54 = .ok (.aload_n 0, 1) := by decide +kernel
theorem dM0_share_55 : decode cM0_share 55 = .ok (.getfield 7, 3) := by decide +kernel
theorem dM0_share_58 : decode cM0_share 58 = .ok (.iload_n 1, 1) := by decide +kernel
theorem dM0_share_59 : decode cM0_share 59 = .ok (.iload_n 2, 1) := by decide +kernel
theorem dM0_share_60 : decode cM0_share 60 = .ok (.iastore, 1) := by decide +kernel
theorem dM0_share_61 : decode cM0_share 61 = .ok (.aload_n 0, 1) := by decide +kernel
theorem dM0_share_62 : decode cM0_share 62 = .ok (.getfield 13, 3) := by decide +kernel
theorem dM0_share_65 : decode cM0_share 65 = .ok (.iload_n 1, 1) := by decide +kernel
theorem dM0_share_66 : decode cM0_share 66 = .ok (.iload_n 3, 1) := by decide +kernel
theorem dM0_share_67 : decode cM0_share 67 = .ok (.iastore, 1) := by decide +kernel
theorem dM0_share_68 : decode cM0_share 68 = .ok (.aload_n 0, 1) := by decide +kernel
theorem dM0_share_69 : decode cM0_share 69 = .ok (.getfield 16, 3) := by decide +kernel
theorem dM0_share_72 : decode cM0_share 72 = .ok (.iload_n 1, 1) := by decide +kernel
theorem dM0_share_73 : decode cM0_share 73 = .ok (.iload 4, 2) := by decide +kernel
theorem dM0_share_75 : decode cM0_share 75 = .ok (.iastore, 1) := by decide +kernel
theorem dM0_share_76 : decode cM0_share 76 = .ok (.iload 5, 2) := by decide +kernel
theorem dM0_share_78 : decode cM0_share 78 = .ok (.ireturn, 1) := by decide +kernel
theorem dM0_fails_0 : decode cM0_fails 0 = .ok (.aload_n 0, 1) := by decide +kernel
theorem dM0_fails_1 : decode cM0_fails 1 = .ok (.iload_n 1, 1) := by decide +kernel
theorem dM0_fails_2 : decode cM0_fails 2 = .ok (.invokevirtual 50, 3) := by decide +kernel
theorem dM0_fails_5 : decode cM0_fails 5 = .ok (.ifCond .ne 9, 3) := by decide +kernel
theorem dM0_fails_8 : decode cM0_fails 8 = .ok (.aload_n 0, 1) := by decide +kernel
theorem dM0_fails_9 : decode cM0_fails 9 = .ok (.iconst 1, 1) := by decide +kernel
theorem dM0_fails_10 : decode cM0_fails 10 = .ok (.invokevirtual 54, 3) := by decide +kernel
theorem dM0_fails_13 : decode cM0_fails 13 = .ok (.ireturn, 1) := by decide +kernel
theorem dM0_fails_14 : decode cM0_fails 14 = .ok (.iload_n 2, 1) := by decide +kernel
theorem dM0_fails_15 : decode cM0_fails 15 = .ok (.iconst 1, 1) := by decide +kernel
theorem dM0_fails_16 : decode cM0_fails 16 = .ok (.bipush 30, 2) := by decide +kernel
theorem dM0_fails_18 : decode cM0_fails 18 = .ok (.invokestatic 58, 3) := by decide +kernel
theorem dM0_fails_21 : decode cM0_fails 21 = .ok (.ifCond .eq 12, 3) := by decide +kernel
theorem dM0_fails_24 : decode cM0_fails 24 = .ok (.iload_n 3, 1) := by decide +kernel
theorem dM0_fails_25 : decode cM0_fails 25 = .ok (.iconst 0, 1) := by decide +kernel
theorem dM0_fails_26 : decode cM0_fails 26 = .ok (.iconst 4, 1) := by decide +kernel
theorem dM0_fails_27 : decode cM0_fails 27 = .ok (.invokestatic 58, 3) := by decide +kernel
theorem dM0_fails_30 : decode cM0_fails 30 = .ok (.ifCond .ne 9, 3) := by decide +kernel
theorem dM0_fails_33 : decode cM0_fails 33 = .ok (.aload_n 0, 1) := by decide +kernel
theorem dM0_fails_34 : decode cM0_fails 34 = .ok (.iconst 2, 1) := by decide +kernel
theorem dM0_fails_35 : decode cM0_fails 35 = .ok (.invokevirtual 54, 3) := by decide +kernel
theorem dM0_fails_38 : decode cM0_fails 38 = .ok (.ireturn, 1) := by decide +kernel
theorem dM0_fails_39 : decode cM0_fails 39 = .ok (.aload_n 0, 1) := by decide +kernel
theorem dM0_fails_40 : decode cM0_fails 40 = .ok (.iconst 0, 1) := by decide +kernel
theorem dM0_fails_41 : decode cM0_fails 41 = .ok (.putfield 47, 3) := by decide +kernel
theorem dM0_fails_44 : decode cM0_fails 44 = .ok (.aload_n 0, 1) := by decide +kernel
theorem dM0_fails_45 : decode cM0_fails 45 = .ok (.getfield 22, 3) := by decide +kernel
theorem dM0_fails_48 : decode cM0_fails 48 = .ok (.iload_n 1, 1) := by decide +kernel
theorem dM0_fails_49 : decode cM0_fails 49 = .ok (.iaload, 1) := by decide +kernel
theorem dM0_fails_50 : decode cM0_fails 50 = .ok (.istore 4, 2) := by decide +kernel
theorem dM0_fails_52 : decode cM0_fails 52 = .ok (.aload_n 0, 1) := by decide +kernel
theorem dM0_fails_53 : decode cM0_fails 53 = .ok (.getfield 19, 3) := by decide +kernel
theorem dM0_fails_56 : decode cM0_fails 56 = .ok (.iload_n 1, 1) := by decide +kernel
theorem dM0_fails_57 : decode cM0_fails 57 = .ok (.iload_n 2, 1) := by decide +kernel
theorem dM0_fails_58 : decode cM0_fails 58 = .ok (.iastore, 1) := by decide +kernel
theorem dM0_fails_59 : decode cM0_fails 59 = .ok (.aload_n 0, 1) := by decide +kernel
theorem dM0_fails_60 : decode cM0_fails 60 = .ok (.getfield 22, 3) := by decide +kernel
theorem dM0_fails_63 : decode cM0_fails 63 = .ok (.iload_n 1, 1) := by decide +kernel
theorem dM0_fails_64 : decode cM0_fails 64 = .ok (.iload_n 3, 1) := by decide +kernel
theorem dM0_fails_65 : decode cM0_fails 65 = .ok (.iastore, 1) := by decide +kernel
theorem dM0_fails_66 : decode cM0_fails 66 = .ok (.iload 4, 2) := by decide +kernel
theorem dM0_fails_68 : decode cM0_fails 68 = .ok (.ireturn, 1) := by decide +kernel
theorem dM0_act_0 : decode cM0_act 0 = .ok (.iload_n 1, 1) := by decide +kernel
theorem dM0_act_1 : decode cM0_act 1 = .ok (.iconst 0, 1) := by decide +kernel
theorem dM0_act_2 : decode cM0_act 2 = .ok (.aload_n 0, 1) := by decide +kernel
theorem dM0_act_3 : decode cM0_act 3 = .ok (.getfield 44, 3) := by decide +kernel
theorem dM0_act_6 : decode cM0_act 6 = .ok (.invokestatic 58, 3) := by decide +kernel
theorem dM0_act_9 : decode cM0_act 9 = .ok (.ifCond .ne 9, 3) := by decide +kernel
theorem dM0_act_12 : decode cM0_act 12 = .ok (.aload_n 0, 1) := by decide +kernel
theorem dM0_act_13 : decode cM0_act 13 = .ok (.iconst 1, 1) := by decide +kernel
theorem dM0_act_14 : decode cM0_act 14 = .ok (.invokevirtual 54, 3) := by decide +kernel
theorem dM0_act_17 : decode cM0_act 17 = .ok (.ireturn, 1) := by decide +kernel
theorem dM0_act_18 : decode cM0_act 18 = .ok (.aload_n 0, 1) := by decide +kernel
theorem dM0_act_19 : decode cM0_act 19 = .ok (.getfield 62, 3) := by decide +kernel
theorem dM0_act_22 : decode cM0_act 22 = .ok (.bipush 24, 2) := by decide +kernel
theorem dM0_act_24 : decode cM0_act 24 = .ok (.if_icmp .ne 9, 3) := by decide +kernel
theorem dM0_act_27 : decode cM0_act 27 = .ok (.aload_n 0, 1) := by decide +kernel
theorem dM0_act_28 : decode cM0_act 28 = .ok (.iconst 2, 1) := by decide +kernel
theorem dM0_act_29 : decode cM0_act 29 = .ok (.invokevirtual 54, 3) := by decide +kernel
theorem dM0_act_32 : decode cM0_act 32 = .ok (.ireturn, 1) := by decide +kernel
theorem dM0_act_33 : decode cM0_act 33 = .ok (.aload_n 0, 1) := by decide +kernel
theorem dM0_act_34 : decode cM0_act 34 = .ok (.iconst 0, 1) := by decide +kernel
theorem dM0_act_35 : decode cM0_act 35 = .ok (.putfield 47, 3) := by decide +kernel
theorem dM0_act_38 : decode cM0_act 38 = .ok (.aload_n 0, 1) := by decide +kernel
theorem dM0_act_39 : decode cM0_act 39 = .ok (.getfield 25, 3) := by decide +kernel
theorem dM0_act_42 : decode cM0_act 42 = .ok (.aload_n 0, 1) := by decide +kernel
theorem dM0_act_43 : decode cM0_act 43 = .ok (.getfield 62, 3) := by decide +kernel
theorem dM0_act_46 : decode cM0_act 46 = .ok (.iload_n 1, 1) := by decide +kernel
theorem dM0_act_47 : decode cM0_act 47 = .ok (.iastore, 1) := by decide +kernel
theorem dM0_act_48 : decode cM0_act 48 = .ok (.aload_n 0, 1) := by decide +kernel
theorem dM0_act_49 : decode cM0_act 49 = .ok (.getfield 28, 3) := by decide +kernel
theorem dM0_act_52 : decode cM0_act 52 = .ok (.aload_n 0, 1) := by decide +kernel
theorem dM0_act_53 : decode cM0_act 53 = .ok (.getfield 62, 3) := by decide +kernel
theorem dM0_act_56 : decode cM0_act 56 = .ok (.iload_n 2, 1) := by decide +kernel
theorem dM0_act_57 : decode cM0_act 57 = .ok (.iastore, 1) := by decide +kernel
theorem dM0_act_58 : decode cM0_act 58 = .ok (.aload_n 0, 1) := by decide +kernel
theorem dM0_act_59 : decode cM0_act 59 = .ok (.dup, 1) := by decide +kernel
theorem dM0_act_60 : decode cM0_act 60 = .ok (.getfield 62, 3) := by decide +kernel
theorem dM0_act_63 : decode cM0_act 63 = .ok (.iconst 1, 1) := by decide +kernel
theorem dM0_act_64 : decode cM0_act 64 = .ok (.iadd, 1) := by decide +kernel
theorem dM0_act_65 : decode cM0_act 65 = .ok (.putfield 62, 3) := by decide +kernel
theorem dM0_act_68 : decode cM0_act 68 = .ok (.aload_n 0, 1) := by decide +kernel
theorem dM0_act_69 : decode cM0_act 69 = .ok (.getfield 62, 3) := by decide +kernel
theorem dM0_act_72 : decode cM0_act 72 = .ok (.iconst 1, 1) := by decide +kernel
theorem dM0_act_73 : decode cM0_act 73 = .ok (.isub, 1) := by decide +kernel
theorem dM0_act_74 : decode cM0_act 74 = .ok (.ireturn, 1) := by decide +kernel
theorem dM0_stop_0 : decode cM0_stop 0 = .ok (.iload_n 1, 1) := by decide +kernel
theorem dM0_stop_1 : decode cM0_stop 1 = .ok (.iconst (-1), 1) := by decide +kernel
theorem dM0_stop_2 : decode cM0_stop 2 = .ok (.if_icmp .eq 17, 3) := by decide +kernel
theorem dM0_stop_5 : decode cM0_stop 5 = .ok (.aload_n 0, 1) := by decide +kernel
theorem dM0_stop_6 : decode cM0_stop 6 = .ok (.iload_n 1, 1) := by decide +kernel
theorem dM0_stop_7 : decode cM0_stop 7 = .ok (.invokevirtual 50, 3) := by decide +kernel
theorem dM0_stop_10 : decode cM0_stop 10 = .ok (.ifCond .ne 9, 3) := by decide +kernel
theorem dM0_stop_13 : decode cM0_stop 13 = .ok (.aload_n 0, 1) := by decide +kernel
theorem dM0_stop_14 : decode cM0_stop 14 = .ok (.iconst 1, 1) := by decide +kernel
theorem dM0_stop_15 : decode cM0_stop 15 = .ok (.invokevirtual 54, 3) := by decide +kernel
theorem dM0_stop_18 : decode cM0_stop 18 = .ok (.ireturn, 1) := by decide +kernel
theorem dM0_stop_19 : decode cM0_stop 19 = .ok (.aload_n 0, 1) := by decide +kernel
theorem dM0_stop_20 : decode cM0_stop 20 = .ok (.iconst 0, 1) := by decide +kernel
theorem dM0_stop_21 : decode cM0_stop 21 = .ok (.putfield 47, 3) := by decide +kernel
theorem dM0_stop_24 : decode cM0_stop 24 = .ok (.aload_n 0, 1) := by decide +kernel
theorem dM0_stop_25 : decode cM0_stop 25 = .ok (.getfield 31, 3) := by decide +kernel
theorem dM0_stop_28 : decode cM0_stop 28 = .ok (.istore_n 2, 1) := by decide +kernel
theorem dM0_stop_29 : decode cM0_stop 29 = .ok (.aload_n 0, 1) := by decide +kernel
theorem dM0_stop_30 : decode cM0_stop 30 = .ok (.iload_n 1, 1) := by decide +kernel
theorem dM0_stop_31 : decode cM0_stop 31 = .ok (.putfield 31, 3) := by decide +kernel
theorem dM0_stop_34 : decode cM0_stop 34 = .ok (.iload_n 2, 1) := by decide +kernel
theorem dM0_stop_35 : decode cM0_stop 35 = .ok (.ireturn, 1) := by decide +kernel
theorem dM0_after_0 : decode cM0_after 0 = .ok (.ldc2_w 65, 3) := by decide +kernel
theorem dM0_after_3 : decode cM0_after 3 = .ok (.aload_n 0, 1) := by decide +kernel
theorem dM0_after_4 : decode cM0_after 4 = .ok (.getfield 13, 3) := by decide +kernel
theorem dM0_after_7 : decode cM0_after 7 = .ok (.iload_n 1, 1) := by decide +kernel
theorem dM0_after_8 : decode cM0_after 8 = .ok (.iaload, 1) := by decide +kernel
theorem dM0_after_9 : decode cM0_after 9 = .ok (.i2l, 1) := by decide +kernel
theorem dM0_after_10 : decode cM0_after 10 = .ok (.lmul, 1) := by decide +kernel
theorem dM0_after_11 : decode cM0_after 11 = .ok (.iload_n 1, 1) := by decide +kernel
theorem dM0_after_12 : decode cM0_after 12 = .ok (.i2l, 1) := by decide +kernel
theorem dM0_after_13 : decode cM0_after 13 = .ok (.ladd, 1) := by decide +kernel
theorem dM0_after_14 : decode cM0_after 14 = .ok (.lstore_n 3, 1) := by decide +kernel
theorem dM0_after_15 : decode cM0_after 15 = .ok (.iconst 0, 1) := by decide +kernel
theorem dM0_after_16 : decode cM0_after 16 = .ok (.istore 5, 2) := by decide +kernel
theorem dM0_after_18 : decode cM0_after 18 = .ok (.iload 5, 2) := by decide +kernel
theorem dM0_after_20 : decode cM0_after 20 = .ok (.iload_n 2, 1) := by decide +kernel
theorem dM0_after_21 : decode cM0_after 21 = .ok (.if_icmp .ge 19, 3) := by decide +kernel
theorem dM0_after_24 : decode cM0_after 24 = .ok (.ldc2_w 67, 3) := by decide +kernel
theorem dM0_after_27 : decode cM0_after 27 = .ok (.lload_n 3, 1) := by decide +kernel
theorem dM0_after_28 : decode cM0_after 28 = .ok (.lmul, 1) := by decide +kernel
theorem dM0_after_29 : decode cM0_after 29 = .ok (.ldc2_w 69, 3) := by decide +kernel
theorem dM0_after_32 : decode cM0_after 32 = .ok (.ladd, 1) := by decide +kernel
theorem dM0_after_33 : decode cM0_after 33 = .ok (.lstore_n 3, 1) := by decide +kernel
theorem dM0_after_34 : decode cM0_after 34 = .ok (.iinc 5 1, 3) := by decide +kernel
theorem dM0_after_37 : decode cM0_after 37 = .ok (.goto (-19), 3) := by decide +kernel
theorem dM0_after_40 : decode cM0_after 40 = .ok (.lload_n 3, 1) := by decide +kernel
theorem dM0_after_41 : decode cM0_after 41 = .ok (.lreturn, 1) := by decide +kernel
theorem dM0_acted_0 : decode cM0_acted 0 = .ok (.iconst 0, 1) := by decide +kernel
theorem dM0_acted_1 : decode cM0_acted 1 = .ok (.istore_n 2, 1) := by decide +kernel
theorem dM0_acted_2 : decode cM0_acted 2 = .ok (.iload_n 2, 1) := by decide +kernel
theorem dM0_acted_3 : decode cM0_acted 3 = .ok (.aload_n 0, 1) := by decide +kernel
theorem dM0_acted_4 : decode cM0_acted 4 = .ok (.getfield 62, 3) := by decide +kernel
theorem dM0_acted_7 : decode cM0_acted 7 = .ok (.if_icmp .ge 46, 3) := by decide +kernel
theorem dM0_acted_10 : decode cM0_acted 10 = .ok (.aload_n 0, 1) := by decide +kernel
theorem dM0_acted_11 : decode cM0_acted 11 = .ok (.getfield 25, 3) := by decide +kernel
theorem dM0_acted_14 : decode cM0_acted 14 = .ok (.iload_n 2, 1) := by decide +kernel
theorem dM0_acted_15 : decode cM0_acted 15 = .ok (.iaload, 1) := by decide +kernel
theorem dM0_acted_16 : decode cM0_acted 16 = .ok (.iload_n 1, 1) := by decide +kernel
theorem dM0_acted_17 : decode cM0_acted 17 = .ok (.if_icmp .ne 30, 3) := by decide +kernel
theorem dM0_acted_20 : decode cM0_acted 20 = .ok (.aload_n 0, 1) := by decide +kernel
theorem dM0_acted_21 : decode cM0_acted 21 = .ok (.ldc2_w 71, 3) := by decide +kernel
theorem dM0_acted_24 : decode cM0_acted 24 = .ok (.aload_n 0, 1) := by decide +kernel
theorem dM0_acted_25 : decode cM0_acted 25 = .ok (.getfield 73, 3) := by decide +kernel
theorem dM0_acted_28 : decode cM0_acted 28 = .ok (.lmul, 1) := by decide +kernel
theorem dM0_acted_29 : decode cM0_acted 29 = .ok (.aload_n 0, 1) := by decide +kernel
theorem dM0_acted_30 : decode cM0_acted 30 = .ok (.getfield 28, 3) := by decide +kernel
theorem dM0_acted_33 : decode cM0_acted 33 = .ok (.iload_n 2, 1) := by decide +kernel
theorem dM0_acted_34 : decode cM0_acted 34 = .ok (.iaload, 1) := by decide +kernel
theorem dM0_acted_35 : decode cM0_acted 35 = .ok (.i2l, 1) := by decide +kernel
theorem dM0_acted_36 : decode cM0_acted 36 = .ok (.ladd, 1) := by decide +kernel
theorem dM0_acted_37 : decode cM0_acted 37 = .ok (.putfield 73, 3) := by decide +kernel
theorem dM0_acted_40 : decode cM0_acted 40 = .ok (.aload_n 0, 1) := by decide +kernel
theorem dM0_acted_41 : decode cM0_acted 41 = .ok (.getfield 41, 3) := by decide +kernel
theorem dM0_acted_44 : decode cM0_acted 44 = .ok (.iload_n 2, 1) := by decide +kernel
theorem dM0_acted_45 : decode cM0_acted 45 = .ok (.iload_n 1, 1) := by decide +kernel
theorem dM0_acted_46 : decode cM0_acted 46 = .ok (.iastore, 1) := by decide +kernel
theorem dM0_acted_47 : decode cM0_acted 47 = .ok (.iinc 2 1, 3) := by decide +kernel
theorem dM0_acted_50 : decode cM0_acted 50 = .ok (.goto (-48), 3) := by decide +kernel
theorem dM0_acted_53 : decode cM0_acted 53 = .ok (.return_, 1) := by decide +kernel
theorem dM0_settles_0 : decode cM0_settles 0 = .ok (.aload_n 0, 1) := by decide +kernel
theorem dM0_settles_1 : decode cM0_settles 1 = .ok (.getfield 16, 3) := by decide +kernel
theorem dM0_settles_4 : decode cM0_settles 4 = .ok (.iload_n 1, 1) := by decide +kernel
theorem dM0_settles_5 : decode cM0_settles 5 = .ok (.iaload, 1) := by decide +kernel
theorem dM0_settles_6 : decode cM0_settles 6 = .ok (.ifCond .le 25, 3) := by decide +kernel
theorem dM0_settles_9 : decode cM0_settles 9 = .ok (.aload_n 0, 1) := by decide +kernel
theorem dM0_settles_10 : decode cM0_settles 10 = .ok (.getfield 35, 3) := by decide +kernel
theorem dM0_settles_13 : decode cM0_settles 13 = .ok (.iload_n 1, 1) := by decide +kernel
theorem dM0_settles_14 : decode cM0_settles 14 = .ok (.iaload, 1) := by decide +kernel
theorem dM0_settles_15 : decode cM0_settles 15 = .ok (.iconst 1, 1) := by decide +kernel
theorem dM0_settles_16 : decode cM0_settles 16 = .ok (.aload_n 0, 1) := by decide +kernel
theorem dM0_settles_17 : decode cM0_settles 17 = .ok (.getfield 16, 3) := by decide +kernel
theorem dM0_settles_20 : decode cM0_settles 20 = .ok (.iload_n 1, 1) := by decide +kernel
theorem dM0_settles_21 : decode cM0_settles 21 = .ok (.iaload, 1) := by decide +kernel
theorem dM0_settles_22 : decode cM0_settles 22 = .ok (.ishl, 1) := by decide +kernel
theorem dM0_settles_23 : decode cM0_settles 23 = .ok (.irem, 1) := by decide +kernel
theorem dM0_settles_24 : decode cM0_settles 24 = .ok (.ifCond .ne 7, 3) := by decide +kernel
theorem dM0_settles_27 : decode cM0_settles 27 = .ok (.iconst 1, 1) := by decide +kernel
theorem dM0_settles_28 : decode cM0_settles 28 = .ok (.goto 4, 3) := by decide +kernel
theorem dM0_settles_31 : decode cM0_settles 31 = .ok (.iconst 0, 1) := by decide +kernel
theorem dM0_settles_32 : decode cM0_settles 32 = .ok (.ireturn, 1) := by decide +kernel
theorem dM0_join_0 : decode cM0_join 0 = .ok (.aload_n 0, 1) := by decide +kernel
theorem dM0_join_1 : decode cM0_join 1 = .ok (.lconst 0, 1) := by decide +kernel
theorem dM0_join_2 : decode cM0_join 2 = .ok (.putfield 73, 3) := by decide +kernel
theorem dM0_join_5 : decode cM0_join 5 = .ok (.aload_n 0, 1) := by decide +kernel
theorem dM0_join_6 : decode cM0_join 6 = .ok (.iconst 0, 1) := by decide +kernel
theorem dM0_join_7 : decode cM0_join 7 = .ok (.putfield 77, 3) := by decide +kernel
theorem dM0_join_10 : decode cM0_join 10 = .ok (.iconst 0, 1) := by decide +kernel
theorem dM0_join_11 : decode cM0_join 11 = .ok (.istore_n 1, 1) := by decide +kernel
theorem dM0_join_12 : decode cM0_join 12 = .ok (.iload_n 1, 1) := by decide +kernel
theorem dM0_join_13 : decode cM0_join 13 = .ok (.bipush 24, 2) := by decide +kernel
theorem dM0_join_15 : decode cM0_join 15 = .ok (.if_icmp .ge 16, 3) := by decide +kernel
theorem dM0_join_18 : decode cM0_join 18 = .ok (.aload_n 0, 1) := by decide +kernel
theorem dM0_join_19 : decode cM0_join 19 = .ok (.getfield 41, 3) := by decide +kernel
theorem dM0_join_22 : decode cM0_join 22 = .ok (.iload_n 1, 1) := by decide +kernel
theorem dM0_join_23 : decode cM0_join 23 = .ok (.iconst (-1), 1) := by decide +kernel
theorem dM0_join_24 : decode cM0_join 24 = .ok (.iastore, 1) := by decide +kernel
theorem dM0_join_25 : decode cM0_join 25 = .ok (.iinc 1 1, 3) := by decide +kernel
theorem dM0_join_28 : decode cM0_join 28 = .ok (.goto (-16), 3) := by decide +kernel
theorem dM0_join_31 : decode cM0_join 31 = .ok (.iconst 0, 1) := by decide +kernel
theorem dM0_join_32 : decode cM0_join 32 = .ok (.istore_n 1, 1) := by decide +kernel
theorem dM0_join_33 : decode cM0_join 33 = .ok (.iload_n 1, 1) := by decide +kernel
theorem dM0_join_34 : decode cM0_join 34 = .ok (.aload_n 0, 1) := by decide +kernel
theorem dM0_join_35 : decode cM0_join 35 = .ok (.getfield 44, 3) := by decide +kernel
theorem dM0_join_38 : decode cM0_join 38 = .ok (.if_icmp .ge 64, 3) := by decide +kernel
theorem dM0_join_41 : decode cM0_join 41 = .ok (.iload_n 1, 1) := by decide +kernel
theorem dM0_join_42 : decode cM0_join 42 = .ok (.aload_n 0, 1) := by decide +kernel
theorem dM0_join_43 : decode cM0_join 43 = .ok (.getfield 31, 3) := by decide +kernel
theorem dM0_join_46 : decode cM0_join 46 = .ok (.if_icmp .ne 5, 3) := by decide +kernel
theorem dM0_join_49 : decode cM0_join 49 = .ok (.iconst (-1), 1) := by decide +kernel
theorem dM0_join_50 : decode cM0_join 50 = .ok (.ireturn, 1) := by decide +kernel
theorem dM0_join_51 : decode cM0_join 51 = .ok (.aload_n 0, 1) := by decide +kernel
theorem dM0_join_52 : decode cM0_join 52 = .ok (.iload_n 1, 1) := by decide +kernel
theorem dM0_join_53 : decode cM0_join 53 = .ok (.invokevirtual 80, 3) := by decide +kernel
theorem dM0_join_56 : decode cM0_join 56 = .ok (.aload_n 0, 1) := by decide +kernel
theorem dM0_join_57 : decode cM0_join 57 = .ok (.ldc2_w 84, 3) := by decide +kernel
theorem dM0_join_60 : decode cM0_join 60 = .ok (.aload_n 0, 1) := by decide +kernel
theorem dM0_join_61 : decode cM0_join 61 = .ok (.getfield 73, 3) := by decide +kernel
theorem dM0_join_64 : decode cM0_join 64 = .ok (.lmul, 1) := by decide +kernel
theorem dM0_join_65 : decode cM0_join 65 = .ok (.aload_n 0, 1) := by decide +kernel
theorem dM0_join_66 : decode cM0_join 66 = .ok (.getfield 35, 3) := by decide +kernel
theorem dM0_join_69 : decode cM0_join 69 = .ok (.iload_n 1, 1) := by decide +kernel
theorem dM0_join_70 : decode cM0_join 70 = .ok (.iaload, 1) := by decide +kernel
theorem dM0_join_71 : decode cM0_join 71 = .ok (.i2l, 1) := by decide +kernel
theorem dM0_join_72 : decode cM0_join 72 = .ok (.ladd, 1) := by decide +kernel
theorem dM0_join_73 : decode cM0_join 73 = .ok (.putfield 73, 3) := by decide +kernel
theorem dM0_join_76 : decode cM0_join 76 = .ok (.aload_n 0, 1) := by decide +kernel
theorem dM0_join_77 : decode cM0_join 77 = .ok (.dup, 1) := by decide +kernel
theorem dM0_join_78 : decode cM0_join 78 = .ok (.getfield 77, 3) := by decide +kernel
theorem dM0_join_81 : decode cM0_join 81 = .ok (.iconst 1, 1) := by decide +kernel
theorem dM0_join_82 : decode cM0_join 82 = .ok (.iadd, 1) := by decide +kernel
theorem dM0_join_83 : decode cM0_join 83 = .ok (.putfield 77, 3) := by decide +kernel
theorem dM0_join_86 : decode cM0_join 86 = .ok (.aload_n 0, 1) := by decide +kernel
theorem dM0_join_87 : decode cM0_join 87 = .ok (.iload_n 1, 1) := by decide +kernel
theorem dM0_join_88 : decode cM0_join 88 = .ok (.invokevirtual 86, 3) := by decide +kernel
theorem dM0_join_91 : decode cM0_join 91 = .ok (.ifCond .eq 5, 3) := by decide +kernel
end
section
theorem dM0_join_94 : decode cM0_join 94 = .ok (.iload_n 1, 1) := by decide +kernel
theorem dM0_join_95 : decode cM0_join 95 = .ok (.ireturn, 1) := by decide +kernel
theorem dM0_join_96 : decode cM0_join 96 = .ok (.iinc 1 1, 3) := by decide +kernel
theorem dM0_join_99 : decode cM0_join 99 = .ok (.goto (-66), 3) := by decide +kernel
theorem dM0_join_102 : decode cM0_join 102 = .ok (.aload_n 0, 1) := by decide +kernel
theorem dM0_join_103 : decode cM0_join 103 = .ok (.aload_n 0, 1) := by decide +kernel
theorem dM0_join_104 : decode cM0_join 104 = .ok (.getfield 44, 3) := by decide +kernel
theorem dM0_join_107 : decode cM0_join 107 = .ok (.invokevirtual 80, 3) := by decide +kernel
theorem dM0_join_110 : decode cM0_join 110 = .ok (.iconst (-1), 1) := by decide +kernel
theorem dM0_join_111 : decode cM0_join 111 = .ok (.ireturn, 1) := by decide +kernel
theorem dM0_run_0 : decode cM0_run 0 = .ok (.iload_n 1, 1) := by decide +kernel
theorem dM0_run_1 : decode cM0_run 1 = .ok (.iconst 1, 1) := by decide +kernel
theorem dM0_run_2 : decode cM0_run 2 = .ok (.bipush 6, 2) := by decide +kernel
theorem dM0_run_4 : decode cM0_run 4 = .ok (.invokestatic 58, 3) := by decide +kernel
theorem dM0_run_7 : decode cM0_run 7 = .ok (.ifCond .ne 9, 3) := by decide +kernel
theorem dM0_run_10 : decode cM0_run 10 = .ok (.aload_n 0, 1) := by decide +kernel
theorem dM0_run_11 : decode cM0_run 11 = .ok (.iconst 1, 1) := by decide +kernel
theorem dM0_run_12 : decode cM0_run 12 = .ok (.invokevirtual 54, 3) := by decide +kernel
theorem dM0_run_15 : decode cM0_run 15 = .ok (.ireturn, 1) := by decide +kernel
theorem dM0_run_16 : decode cM0_run 16 = .ok (.aload_n 0, 1) := by decide +kernel
theorem dM0_run_17 : decode cM0_run 17 = .ok (.iconst 0, 1) := by decide +kernel
theorem dM0_run_18 : decode cM0_run 18 = .ok (.putfield 47, 3) := by decide +kernel
theorem dM0_run_21 : decode cM0_run 21 = .ok (.iconst 0, 1) := by decide +kernel
theorem dM0_run_22 : decode cM0_run 22 = .ok (.istore_n 3, 1) := by decide +kernel
theorem dM0_run_23 : decode cM0_run 23 = .ok (.iconst 0, 1) := by decide +kernel
theorem dM0_run_24 : decode cM0_run 24 = .ok (.istore 4, 2) := by decide +kernel
theorem dM0_run_26 : decode cM0_run 26 = .ok (.iload 4, 2) := by decide +kernel
theorem dM0_run_28 : decode cM0_run 28 = .ok (.aload_n 0, 1) := by decide +kernel
theorem dM0_run_29 : decode cM0_run 29 = .ok (.getfield 44, 3) := by decide +kernel
theorem dM0_run_32 : decode cM0_run 32 = .ok (.if_icmp .ge 19, 3) := by decide +kernel
theorem dM0_run_35 : decode cM0_run 35 = .ok (.iload_n 3, 1) := by decide +kernel
theorem dM0_run_36 : decode cM0_run 36 = .ok (.aload_n 0, 1) := by decide +kernel
theorem dM0_run_37 : decode cM0_run 37 = .ok (.getfield 22, 3) := by decide +kernel
theorem dM0_run_40 : decode cM0_run 40 = .ok (.iload 4, 2) := by decide +kernel
theorem dM0_run_42 : decode cM0_run 42 = .ok (.iaload, 1) := by decide +kernel
theorem dM0_run_43 : decode cM0_run 43 = .ok (.iadd, 1) := by decide +kernel
theorem dM0_run_44 : decode cM0_run 44 = .ok (.istore_n 3, 1) := by decide +kernel
theorem dM0_run_45 : decode cM0_run 45 = .ok (.iinc 4 1, 3) := by decide +kernel
theorem dM0_run_48 : decode cM0_run 48 = .ok (.goto (-22), 3) := by decide +kernel
theorem dM0_run_51 : decode cM0_run 51 = .ok (.iload_n 3, 1) := by decide +kernel
theorem dM0_run_52 : decode cM0_run 52 = .ok (.iload_n 1, 1) := by decide +kernel
theorem dM0_run_53 : decode cM0_run 53 = .ok (.if_icmp .lt 16, 3) := by decide +kernel
theorem dM0_run_56 : decode cM0_run 56 = .ok (.aload_n 0, 1) := by decide +kernel
theorem dM0_run_57 : decode cM0_run 57 = .ok (.dup, 1) := by decide +kernel
theorem dM0_run_58 : decode cM0_run 58 = .ok (.getfield 89, 3) := by decide +kernel
theorem dM0_run_61 : decode cM0_run 61 = .ok (.iconst 1, 1) := by decide +kernel
theorem dM0_run_62 : decode cM0_run 62 = .ok (.iadd, 1) := by decide +kernel
theorem dM0_run_63 : decode cM0_run 63 = .ok (.putfield 89, 3) := by decide +kernel
theorem dM0_run_66 : decode cM0_run 66 = .ok (.bipush (-2), 2) := by decide +kernel
theorem dM0_run_68 : decode cM0_run 68 = .ok (.ireturn, 1) := by decide +kernel
theorem dM0_run_69 : decode cM0_run 69 = .ok (.aload_n 0, 1) := by decide +kernel
theorem dM0_run_70 : decode cM0_run 70 = .ok (.dup, 1) := by decide +kernel
theorem dM0_run_71 : decode cM0_run 71 = .ok (.getfield 92, 3) := by decide +kernel
theorem dM0_run_74 : decode cM0_run 74 = .ok (.iconst 1, 1) := by decide +kernel
theorem dM0_run_75 : decode cM0_run 75 = .ok (.iadd, 1) := by decide +kernel
theorem dM0_run_76 : decode cM0_run 76 = .ok (.putfield 92, 3) := by decide +kernel
theorem dM0_run_79 : decode cM0_run 79 = .ok (.aload_n 0, 1) := by decide +kernel
theorem dM0_run_80 : decode cM0_run 80 = .ok (.iload_n 1, 1) := by decide +kernel
theorem dM0_run_81 : decode cM0_run 81 = .ok (.iload_n 3, 1) := by decide +kernel
theorem dM0_run_82 : decode cM0_run 82 = .ok (.isub, 1) := by decide +kernel
theorem dM0_run_83 : decode cM0_run 83 = .ok (.putfield 95, 3) := by decide +kernel
theorem dM0_run_86 : decode cM0_run 86 = .ok (.aload_n 0, 1) := by decide +kernel
theorem dM0_run_87 : decode cM0_run 87 = .ok (.iconst 0, 1) := by decide +kernel
theorem dM0_run_88 : decode cM0_run 88 = .ok (.putfield 98, 3) := by decide +kernel
theorem dM0_run_91 : decode cM0_run 91 = .ok (.iconst 0, 1) := by decide +kernel
theorem dM0_run_92 : decode cM0_run 92 = .ok (.istore 4, 2) := by decide +kernel
theorem dM0_run_94 : decode cM0_run 94 = .ok (.iload 4, 2) := by decide +kernel
theorem dM0_run_96 : decode cM0_run 96 = .ok (.aload_n 0, 1) := by decide +kernel
theorem dM0_run_97 : decode cM0_run 97 = .ok (.getfield 44, 3) := by decide +kernel
theorem dM0_run_100 : decode cM0_run 100 = .ok (.if_icmp .ge 108, 3) := by decide +kernel
theorem dM0_run_103 : decode cM0_run 103 = .ok (.aload_n 0, 1) := by decide +kernel
theorem dM0_run_104 : decode cM0_run 104 = .ok (.getfield 35, 3) := by decide +kernel
theorem dM0_run_107 : decode cM0_run 107 = .ok (.iload 4, 2) := by decide +kernel
theorem dM0_run_109 : decode cM0_run 109 = .ok (.aload_n 0, 1) := by decide +kernel
theorem dM0_run_110 : decode cM0_run 110 = .ok (.iload 4, 2) := by decide +kernel
theorem dM0_run_112 : decode cM0_run 112 = .ok (.aload_n 0, 1) := by decide +kernel
theorem dM0_run_113 : decode cM0_run 113 = .ok (.getfield 7, 3) := by decide +kernel
theorem dM0_run_116 : decode cM0_run 116 = .ok (.iload 4, 2) := by decide +kernel
theorem dM0_run_118 : decode cM0_run 118 = .ok (.iaload, 1) := by decide +kernel
theorem dM0_run_119 : decode cM0_run 119 = .ok (.invokevirtual 101, 3) := by decide +kernel
theorem dM0_run_122 : decode cM0_run 122 = .ok (.bipush 33, 2) := by decide +kernel
theorem dM0_run_124 : decode cM0_run 124 = .ok (.lushr, 1) := by decide +kernel
theorem dM0_run_125 : decode cM0_run 125 = .ok (.l2i, 1) := by decide +kernel
theorem dM0_run_126 : decode cM0_run 126 = .ok (.iastore, 1) := by decide +kernel
theorem dM0_run_127 : decode cM0_run 127 = .ok (.aload_n 0, 1) := by decide +kernel
theorem dM0_run_128 : decode cM0_run 128 = .ok (.getfield 38, 3) := by decide +kernel
theorem dM0_run_131 : decode cM0_run 131 = .ok (.iload 4, 2) := by decide +kernel
theorem dM0_run_133 : decode cM0_run 133 = .ok (.iconst 1, 1) := by decide +kernel
theorem dM0_run_134 : decode cM0_run 134 = .ok (.aload_n 0, 1) := by decide +kernel
theorem dM0_run_135 : decode cM0_run 135 = .ok (.getfield 22, 3) := by decide +kernel
theorem dM0_run_138 : decode cM0_run 138 = .ok (.iload 4, 2) := by decide +kernel
theorem dM0_run_140 : decode cM0_run 140 = .ok (.iaload, 1) := by decide +kernel
theorem dM0_run_141 : decode cM0_run 141 = .ok (.iadd, 1) := by decide +kernel
theorem dM0_run_142 : decode cM0_run 142 = .ok (.iastore, 1) := by decide +kernel
theorem dM0_run_143 : decode cM0_run 143 = .ok (.aload_n 0, 1) := by decide +kernel
theorem dM0_run_144 : decode cM0_run 144 = .ok (.dup, 1) := by decide +kernel
theorem dM0_run_145 : decode cM0_run 145 = .ok (.getfield 98, 3) := by decide +kernel
theorem dM0_run_148 : decode cM0_run 148 = .ok (.aload_n 0, 1) := by decide +kernel
theorem dM0_run_149 : decode cM0_run 149 = .ok (.getfield 7, 3) := by decide +kernel
theorem dM0_run_152 : decode cM0_run 152 = .ok (.iload 4, 2) := by decide +kernel
theorem dM0_run_154 : decode cM0_run 154 = .ok (.iaload, 1) := by decide +kernel
theorem dM0_run_155 : decode cM0_run 155 = .ok (.aload_n 0, 1) := by decide +kernel
theorem dM0_run_156 : decode cM0_run 156 = .ok (.getfield 22, 3) := by decide +kernel
theorem dM0_run_159 : decode cM0_run 159 = .ok (.iload 4, 2) := by decide +kernel
theorem dM0_run_161 : decode cM0_run 161 = .ok (.iaload, 1) := by decide +kernel
theorem dM0_run_162 : decode cM0_run 162 = .ok (.aload_n 0, 1) := by decide +kernel
theorem dM0_run_163 : decode cM0_run 163 = .ok (.getfield 19, 3) := by decide +kernel
theorem dM0_run_166 : decode cM0_run 166 = .ok (.iload 4, 2) := by decide +kernel
theorem dM0_run_168 : decode cM0_run 168 = .ok (.iaload, 1) := by decide +kernel
theorem dM0_run_169 : decode cM0_run 169 = .ok (.aload_n 0, 1) := by decide +kernel
theorem dM0_run_170 : decode cM0_run 170 = .ok (.getfield 7, 3) := by decide +kernel
theorem dM0_run_173 : decode cM0_run 173 = .ok (.iload 4, 2) := by decide +kernel
theorem dM0_run_175 : decode cM0_run 175 = .ok (.iaload, 1) := by decide +kernel
theorem dM0_run_176 : decode cM0_run 176 = .ok (.if_icmp .ge 13, 3) := by decide +kernel
theorem dM0_run_179 : decode cM0_run 179 = .ok (.aload_n 0, 1) := by decide +kernel
theorem dM0_run_180 : decode cM0_run 180 = .ok (.getfield 19, 3) := by decide +kernel
theorem dM0_run_183 : decode cM0_run 183 = .ok (.iload 4, 2) := by decide +kernel
theorem dM0_run_185 : decode cM0_run 185 = .ok (.iaload, 1) := by decide +kernel
theorem dM0_run_186 : decode cM0_run 186 = .ok (.goto 10, 3) := by decide +kernel
theorem dM0_run_189 : decode cM0_run 189 = .ok (.aload_n 0, 1) := by decide +kernel
theorem dM0_run_190 : decode cM0_run 190 = .ok (.getfield 7, 3) := by decide +kernel
theorem dM0_run_193 : decode cM0_run 193 = .ok (.iload 4, 2) := by decide +kernel
theorem dM0_run_195 : decode cM0_run 195 = .ok (.iaload, 1) := by decide +kernel
theorem dM0_run_196 : decode cM0_run 196 = .ok (.imul, 1) := by decide +kernel
theorem dM0_run_197 : decode cM0_run 197 = .ok (.iadd, 1) := by decide +kernel
theorem dM0_run_198 : decode cM0_run 198 = .ok (.iadd, 1) := by decide +kernel
theorem dM0_run_199 : decode cM0_run 199 = .ok (.putfield 98, 3) := by decide +kernel
theorem dM0_run_202 : decode cM0_run 202 = .ok (.iinc 4 1, 3) := by decide +kernel
theorem dM0_run_205 : decode cM0_run 205 = .ok (.goto (-111), 3) := by decide +kernel
theorem dM0_run_208 : decode cM0_run 208 = .ok (.aload_n 0, 1) := by decide +kernel
theorem dM0_run_209 : decode cM0_run 209 = .ok (.invokevirtual 105, 3) := by decide +kernel
theorem dM0_run_212 : decode cM0_run 212 = .ok (.ireturn, 1) := by decide +kernel
theorem dM0_isNone_0 : decode cM0_isNone 0 = .ok (.aload_n 0, 1) := by decide +kernel
theorem dM0_isNone_1 : decode cM0_isNone 1 = .ok (.aload_n 0, 1) := by decide +kernel
theorem dM0_isNone_2 : decode cM0_isNone 2 = .ok (.getfield 92, 3) := by decide +kernel
theorem dM0_isNone_5 : decode cM0_isNone 5 = .ok (.ifCond .ne 7, 3) := by decide +kernel
theorem dM0_isNone_8 : decode cM0_isNone 8 = .ok (.iconst 1, 1) := by decide +kernel
theorem dM0_isNone_9 : decode cM0_isNone 9 = .ok (.goto 4, 3) := by decide +kernel
theorem dM0_isNone_12 : decode cM0_isNone 12 = .ok (.iconst 0, 1) := by decide +kernel
theorem dM0_isNone_13 : decode cM0_isNone 13 = .ok (.putfield 47, 3) := by decide +kernel
theorem dM0_isNone_16 : decode cM0_isNone 16 = .ok (.aload_n 0, 1) := by decide +kernel
theorem dM0_isNone_17 : decode cM0_isNone 17 = .ok (.getfield 92, 3) := by decide +kernel
theorem dM0_isNone_20 : decode cM0_isNone 20 = .ok (.ifCond .ne 7, 3) := by decide +kernel
theorem dM0_isNone_23 : decode cM0_isNone 23 = .ok (.iconst 1, 1) := by decide +kernel
theorem dM0_isNone_24 : decode cM0_isNone 24 = .ok (.goto 4, 3) := by decide +kernel
theorem dM0_isNone_27 : decode cM0_isNone 27 = .ok (.iconst 0, 1) := by decide +kernel
theorem dM0_isNone_28 : decode cM0_isNone 28 = .ok (.ireturn, 1) := by decide +kernel
theorem dM0_joined_0 : decode cM0_joined 0 = .ok (.aload_n 0, 1) := by decide +kernel
theorem dM0_joined_1 : decode cM0_joined 1 = .ok (.invokevirtual 109, 3) := by decide +kernel
theorem dM0_joined_4 : decode cM0_joined 4 = .ok (.ifCond .eq 7, 3) := by decide +kernel
theorem dM0_joined_7 : decode cM0_joined 7 = .ok (.lconst 0, 1) := by decide +kernel
theorem dM0_joined_8 : decode cM0_joined 8 = .ok (.goto 7, 3) := by decide +kernel
theorem dM0_joined_11 : decode cM0_joined 11 = .ok (.aload_n 0, 1) := by decide +kernel
theorem dM0_joined_12 : decode cM0_joined 12 = .ok (.getfield 73, 3) := by decide +kernel
theorem dM0_joined_15 : decode cM0_joined 15 = .ok (.lreturn, 1) := by decide +kernel
theorem dM0_many_0 : decode cM0_many 0 = .ok (.aload_n 0, 1) := by decide +kernel
theorem dM0_many_1 : decode cM0_many 1 = .ok (.invokevirtual 109, 3) := by decide +kernel
theorem dM0_many_4 : decode cM0_many 4 = .ok (.ifCond .eq 7, 3) := by decide +kernel
theorem dM0_many_7 : decode cM0_many 7 = .ok (.iconst 0, 1) := by decide +kernel
theorem dM0_many_8 : decode cM0_many 8 = .ok (.goto 7, 3) := by decide +kernel
theorem dM0_many_11 : decode cM0_many 11 = .ok (.aload_n 0, 1) := by decide +kernel
theorem dM0_many_12 : decode cM0_many 12 = .ok (.getfield 77, 3) := by decide +kernel
theorem dM0_many_15 : decode cM0_many 15 = .ok (.ireturn, 1) := by decide +kernel
theorem dM0_isRefused_0 : decode cM0_isRefused 0 = .ok (.aload_n 0, 1) := by decide +kernel
theorem dM0_isRefused_1 : decode cM0_isRefused 1 = .ok (.iload_n 1, 1) := by decide +kernel
theorem dM0_isRefused_2 : decode cM0_isRefused 2 = .ok (.ifCond .ne 7, 3) := by decide +kernel
theorem dM0_isRefused_5 : decode cM0_isRefused 5 = .ok (.iconst 1, 1) := by decide +kernel
theorem dM0_isRefused_6 : decode cM0_isRefused 6 = .ok (.goto 15, 3) := by decide +kernel
theorem dM0_isRefused_9 : decode cM0_isRefused 9 = .ok (.aload_n 0, 1) := by decide +kernel
theorem dM0_isRefused_10 : decode cM0_isRefused 10 = .ok (.getfield 92, 3) := by decide +kernel
theorem dM0_isRefused_13 : decode cM0_isRefused 13 = .ok (.ifCond .ne 7, 3) := by decide +kernel
theorem dM0_isRefused_16 : decode cM0_isRefused 16 = .ok (.iconst 2, 1) := by decide +kernel
theorem dM0_isRefused_17 : decode cM0_isRefused 17 = .ok (.goto 4, 3) := by decide +kernel
theorem dM0_isRefused_20 : decode cM0_isRefused 20 = .ok (.iconst 0, 1) := by decide +kernel
theorem dM0_isRefused_21 : decode cM0_isRefused 21 = .ok (.putfield 47, 3) := by decide +kernel
theorem dM0_isRefused_24 : decode cM0_isRefused 24 = .ok (.aload_n 0, 1) := by decide +kernel
theorem dM0_isRefused_25 : decode cM0_isRefused 25 = .ok (.getfield 47, 3) := by decide +kernel
theorem dM0_isRefused_28 : decode cM0_isRefused 28 = .ok (.ifCond .le 7, 3) := by decide +kernel
theorem dM0_isRefused_31 : decode cM0_isRefused 31 = .ok (.iconst 1, 1) := by decide +kernel
theorem dM0_isRefused_32 : decode cM0_isRefused 32 = .ok (.goto 4, 3) := by decide +kernel
theorem dM0_isRefused_35 : decode cM0_isRefused 35 = .ok (.iconst 0, 1) := by decide +kernel
theorem dM0_isRefused_36 : decode cM0_isRefused 36 = .ok (.ireturn, 1) := by decide +kernel
theorem dM0_value_0 : decode cM0_value 0 = .ok (.aload_n 0, 1) := by decide +kernel
theorem dM0_value_1 : decode cM0_value 1 = .ok (.aload_n 0, 1) := by decide +kernel
theorem dM0_value_2 : decode cM0_value 2 = .ok (.iload_n 1, 1) := by decide +kernel
theorem dM0_value_3 : decode cM0_value 3 = .ok (.invokevirtual 50, 3) := by decide +kernel
theorem dM0_value_6 : decode cM0_value 6 = .ok (.invokevirtual 113, 3) := by decide +kernel
theorem dM0_value_9 : decode cM0_value 9 = .ok (.ifCond .eq 7, 3) := by decide +kernel
theorem dM0_value_12 : decode cM0_value 12 = .ok (.iconst 0, 1) := by decide +kernel
theorem dM0_value_13 : decode cM0_value 13 = .ok (.goto 9, 3) := by decide +kernel
theorem dM0_value_16 : decode cM0_value 16 = .ok (.aload_n 0, 1) := by decide +kernel
theorem dM0_value_17 : decode cM0_value 17 = .ok (.getfield 35, 3) := by decide +kernel
theorem dM0_value_20 : decode cM0_value 20 = .ok (.iload_n 1, 1) := by decide +kernel
theorem dM0_value_21 : decode cM0_value 21 = .ok (.iaload, 1) := by decide +kernel
theorem dM0_value_22 : decode cM0_value 22 = .ok (.ireturn, 1) := by decide +kernel
theorem dM0_chain_0 : decode cM0_chain 0 = .ok (.aload_n 0, 1) := by decide +kernel
theorem dM0_chain_1 : decode cM0_chain 1 = .ok (.aload_n 0, 1) := by decide +kernel
theorem dM0_chain_2 : decode cM0_chain 2 = .ok (.iload_n 1, 1) := by decide +kernel
theorem dM0_chain_3 : decode cM0_chain 3 = .ok (.invokevirtual 50, 3) := by decide +kernel
theorem dM0_chain_6 : decode cM0_chain 6 = .ok (.ifCond .eq 33, 3) := by decide +kernel
theorem dM0_chain_9 : decode cM0_chain 9 = .ok (.iload_n 2, 1) := by decide +kernel
theorem dM0_chain_10 : decode cM0_chain 10 = .ok (.iconst 0, 1) := by decide +kernel
theorem dM0_chain_11 : decode cM0_chain 11 = .ok (.aload_n 0, 1) := by decide +kernel
theorem dM0_chain_12 : decode cM0_chain 12 = .ok (.getfield 7, 3) := by decide +kernel
theorem dM0_chain_15 : decode cM0_chain 15 = .ok (.aload_n 0, 1) := by decide +kernel
theorem dM0_chain_16 : decode cM0_chain 16 = .ok (.iload_n 1, 1) := by decide +kernel
theorem dM0_chain_17 : decode cM0_chain 17 = .ok (.invokevirtual 50, 3) := by decide +kernel
theorem dM0_chain_20 : decode cM0_chain 20 = .ok (.ifCond .eq 7, 3) := by decide +kernel
theorem dM0_chain_23 : decode cM0_chain 23 = .ok (.iload_n 1, 1) := by decide +kernel
theorem dM0_chain_24 : decode cM0_chain 24 = .ok (.goto 4, 3) := by decide +kernel
theorem dM0_chain_27 : decode cM0_chain 27 = .ok (.iconst 0, 1) := by decide +kernel
theorem dM0_chain_28 : decode cM0_chain 28 = .ok (.iaload, 1) := by decide +kernel
theorem dM0_chain_29 : decode cM0_chain 29 = .ok (.invokestatic 58, 3) := by decide +kernel
theorem dM0_chain_32 : decode cM0_chain 32 = .ok (.ifCond .eq 7, 3) := by decide +kernel
theorem dM0_chain_35 : decode cM0_chain 35 = .ok (.iconst 0, 1) := by decide +kernel
theorem dM0_chain_36 : decode cM0_chain 36 = .ok (.goto 4, 3) := by decide +kernel
theorem dM0_chain_39 : decode cM0_chain 39 = .ok (.iconst 1, 1) := by decide +kernel
theorem dM0_chain_40 : decode cM0_chain 40 = .ok (.putfield 47, 3) := by decide +kernel
theorem dM0_chain_43 : decode cM0_chain 43 = .ok (.aload_n 0, 1) := by decide +kernel
theorem dM0_chain_44 : decode cM0_chain 44 = .ok (.getfield 47, 3) := by decide +kernel
theorem dM0_chain_47 : decode cM0_chain 47 = .ok (.ifCond .le 7, 3) := by decide +kernel
theorem dM0_chain_50 : decode cM0_chain 50 = .ok (.lconst 0, 1) := by decide +kernel
theorem dM0_chain_51 : decode cM0_chain 51 = .ok (.goto 9, 3) := by decide +kernel
theorem dM0_chain_54 : decode cM0_chain 54 = .ok (.aload_n 0, 1) := by decide +kernel
theorem dM0_chain_55 : decode cM0_chain 55 = .ok (.iload_n 1, 1) := by decide +kernel
theorem dM0_chain_56 : decode cM0_chain 56 = .ok (.iload_n 2, 1) := by decide +kernel
theorem dM0_chain_57 : decode cM0_chain 57 = .ok (.invokevirtual 101, 3) := by decide +kernel
theorem dM0_chain_60 : decode cM0_chain 60 = .ok (.lreturn, 1) := by decide +kernel
theorem dM0_came_0 : decode cM0_came 0 = .ok (.aload_n 0, 1) := by decide +kernel
theorem dM0_came_1 : decode cM0_came 1 = .ok (.iload_n 1, 1) := by decide +kernel
theorem dM0_came_2 : decode cM0_came 2 = .ok (.iconst 0, 1) := by decide +kernel
theorem dM0_came_3 : decode cM0_came 3 = .ok (.aload_n 0, 1) := by decide +kernel
theorem dM0_came_4 : decode cM0_came 4 = .ok (.getfield 62, 3) := by decide +kernel
theorem dM0_came_7 : decode cM0_came 7 = .ok (.iconst 1, 1) := by decide +kernel
theorem dM0_came_8 : decode cM0_came 8 = .ok (.isub, 1) := by decide +kernel
theorem dM0_came_9 : decode cM0_came 9 = .ok (.invokestatic 58, 3) := by decide +kernel
theorem dM0_came_12 : decode cM0_came 12 = .ok (.invokevirtual 113, 3) := by decide +kernel
theorem dM0_came_15 : decode cM0_came 15 = .ok (.ifCond .eq 7, 3) := by decide +kernel
theorem dM0_came_18 : decode cM0_came 18 = .ok (.iconst 0, 1) := by decide +kernel
theorem dM0_came_19 : decode cM0_came 19 = .ok (.goto 9, 3) := by decide +kernel
theorem dM0_came_22 : decode cM0_came 22 = .ok (.aload_n 0, 1) := by decide +kernel
theorem dM0_came_23 : decode cM0_came 23 = .ok (.getfield 41, 3) := by decide +kernel
theorem dM0_came_26 : decode cM0_came 26 = .ok (.iload_n 1, 1) := by decide +kernel
theorem dM0_came_27 : decode cM0_came 27 = .ok (.iaload, 1) := by decide +kernel
theorem dM0_came_28 : decode cM0_came 28 = .ok (.ireturn, 1) := by decide +kernel
theorem dM0_begun_0 : decode cM0_begun 0 = .ok (.aload_n 0, 1) := by decide +kernel
theorem dM0_begun_1 : decode cM0_begun 1 = .ok (.aload_n 0, 1) := by decide +kernel
theorem dM0_begun_2 : decode cM0_begun 2 = .ok (.iload_n 1, 1) := by decide +kernel
theorem dM0_begun_3 : decode cM0_begun 3 = .ok (.invokevirtual 50, 3) := by decide +kernel
theorem dM0_begun_6 : decode cM0_begun 6 = .ok (.invokevirtual 113, 3) := by decide +kernel
theorem dM0_begun_9 : decode cM0_begun 9 = .ok (.ifCond .eq 7, 3) := by decide +kernel
theorem dM0_begun_12 : decode cM0_begun 12 = .ok (.iconst 0, 1) := by decide +kernel
theorem dM0_begun_13 : decode cM0_begun 13 = .ok (.goto 9, 3) := by decide +kernel
theorem dM0_begun_16 : decode cM0_begun 16 = .ok (.aload_n 0, 1) := by decide +kernel
theorem dM0_begun_17 : decode cM0_begun 17 = .ok (.getfield 38, 3) := by decide +kernel
theorem dM0_begun_20 : decode cM0_begun 20 = .ok (.iload_n 1, 1) := by decide +kernel
theorem dM0_begun_21 : decode cM0_begun 21 = .ok (.iaload, 1) := by decide +kernel
theorem dM0_begun_22 : decode cM0_begun 22 = .ok (.ireturn, 1) := by decide +kernel
theorem dM0_steps_0 : decode cM0_steps 0 = .ok (.aload_n 0, 1) := by decide +kernel
theorem dM0_steps_1 : decode cM0_steps 1 = .ok (.iload_n 1, 1) := by decide +kernel
theorem dM0_steps_2 : decode cM0_steps 2 = .ok (.iconst 0, 1) := by decide +kernel
theorem dM0_steps_3 : decode cM0_steps 3 = .ok (.iconst 1, 1) := by decide +kernel
theorem dM0_steps_4 : decode cM0_steps 4 = .ok (.invokestatic 58, 3) := by decide +kernel
theorem dM0_steps_7 : decode cM0_steps 7 = .ok (.invokevirtual 113, 3) := by decide +kernel
theorem dM0_steps_10 : decode cM0_steps 10 = .ok (.ifCond .eq 7, 3) := by decide +kernel
theorem dM0_steps_13 : decode cM0_steps 13 = .ok (.iconst 0, 1) := by decide +kernel
theorem dM0_steps_14 : decode cM0_steps 14 = .ok (.goto 18, 3) := by decide +kernel
theorem dM0_steps_17 : decode cM0_steps 17 = .ok (.iload_n 1, 1) := by decide +kernel
theorem dM0_steps_18 : decode cM0_steps 18 = .ok (.ifCond .ne 10, 3) := by decide +kernel
theorem dM0_steps_21 : decode cM0_steps 21 = .ok (.aload_n 0, 1) := by decide +kernel
theorem dM0_steps_22 : decode cM0_steps 22 = .ok (.getfield 98, 3) := by decide +kernel
theorem dM0_steps_25 : decode cM0_steps 25 = .ok (.goto 7, 3) := by decide +kernel
theorem dM0_steps_28 : decode cM0_steps 28 = .ok (.aload_n 0, 1) := by decide +kernel
theorem dM0_steps_29 : decode cM0_steps 29 = .ok (.getfield 95, 3) := by decide +kernel
theorem dM0_steps_32 : decode cM0_steps 32 = .ok (.ireturn, 1) := by decide +kernel
theorem dM0_count_0 : decode cM0_count 0 = .ok (.aload_n 0, 1) := by decide +kernel
theorem dM0_count_1 : decode cM0_count 1 = .ok (.iload_n 1, 1) := by decide +kernel
theorem dM0_count_2 : decode cM0_count 2 = .ok (.iconst 0, 1) := by decide +kernel
theorem dM0_count_3 : decode cM0_count 3 = .ok (.iconst 3, 1) := by decide +kernel
theorem dM0_count_4 : decode cM0_count 4 = .ok (.invokestatic 58, 3) := by decide +kernel
theorem dM0_count_7 : decode cM0_count 7 = .ok (.ifCond .eq 7, 3) := by decide +kernel
theorem dM0_count_10 : decode cM0_count 10 = .ok (.iconst 0, 1) := by decide +kernel
theorem dM0_count_11 : decode cM0_count 11 = .ok (.goto 4, 3) := by decide +kernel
theorem dM0_count_14 : decode cM0_count 14 = .ok (.iconst 1, 1) := by decide +kernel
theorem dM0_count_15 : decode cM0_count 15 = .ok (.putfield 47, 3) := by decide +kernel
theorem dM0_count_18 : decode cM0_count 18 = .ok (.aload_n 0, 1) := by decide +kernel
theorem dM0_count_19 : decode cM0_count 19 = .ok (.getfield 47, 3) := by decide +kernel
theorem dM0_count_22 : decode cM0_count 22 = .ok (.ifCond .le 7, 3) := by decide +kernel
theorem dM0_count_25 : decode cM0_count 25 = .ok (.iconst 0, 1) := by decide +kernel
theorem dM0_count_26 : decode cM0_count 26 = .ok (.goto 42, 3) := by decide +kernel
theorem dM0_count_29 : decode cM0_count 29 = .ok (.iload_n 1, 1) := by decide +kernel
theorem dM0_count_30 : decode cM0_count 30 = .ok (.ifCond .ne 10, 3) := by decide +kernel
theorem dM0_count_33 : decode cM0_count 33 = .ok (.aload_n 0, 1) := by decide +kernel
theorem dM0_count_34 : decode cM0_count 34 = .ok (.getfield 44, 3) := by decide +kernel
theorem dM0_count_37 : decode cM0_count 37 = .ok (.goto 31, 3) := by decide +kernel
theorem dM0_count_40 : decode cM0_count 40 = .ok (.iload_n 1, 1) := by decide +kernel
theorem dM0_count_41 : decode cM0_count 41 = .ok (.iconst 1, 1) := by decide +kernel
theorem dM0_count_42 : decode cM0_count 42 = .ok (.if_icmp .ne 10, 3) := by decide +kernel
theorem dM0_count_45 : decode cM0_count 45 = .ok (.aload_n 0, 1) := by decide +kernel
theorem dM0_count_46 : decode cM0_count 46 = .ok (.getfield 62, 3) := by decide +kernel
theorem dM0_count_49 : decode cM0_count 49 = .ok (.goto 19, 3) := by decide +kernel
theorem dM0_count_52 : decode cM0_count 52 = .ok (.iload_n 1, 1) := by decide +kernel
theorem dM0_count_53 : decode cM0_count 53 = .ok (.iconst 2, 1) := by decide +kernel
theorem dM0_count_54 : decode cM0_count 54 = .ok (.if_icmp .ne 10, 3) := by decide +kernel
theorem dM0_count_57 : decode cM0_count 57 = .ok (.aload_n 0, 1) := by decide +kernel
theorem dM0_count_58 : decode cM0_count 58 = .ok (.getfield 92, 3) := by decide +kernel
theorem dM0_count_61 : decode cM0_count 61 = .ok (.goto 7, 3) := by decide +kernel
theorem dM0_count_64 : decode cM0_count 64 = .ok (.aload_n 0, 1) := by decide +kernel
theorem dM0_count_65 : decode cM0_count 65 = .ok (.getfield 89, 3) := by decide +kernel
theorem dM0_count_68 : decode cM0_count 68 = .ok (.ireturn, 1) := by decide +kernel
end
section
theorem dX0_init_0 : decode cX0_init 0 = .ok (.aload_n 0, 1) := by decide +kernel
theorem dX0_init_1 : decode cX0_init 1 = .ok (.invokespecial 1, 3) := by decide +kernel
theorem dX0_init_4 : decode cX0_init 4 = .ok (.iconst 1, 1) := by decide +kernel
theorem dX0_init_5 : decode cX0_init 5 = .ok (.bipush 40, 2) := by decide +kernel
theorem dX0_init_7 : decode cX0_init 7 = .ok (.iload_n 1, 1) := by decide +kernel
theorem dX0_init_8 : decode cX0_init 8 = .ok (.invokestatic 9, 3) := by decide +kernel
theorem dX0_init_11 : decode cX0_init 11 = .ok (.invokestatic 15, 3) := by decide +kernel
theorem dX0_init_14 : decode cX0_init 14 = .ok (.istore_n 2, 1) := by decide +kernel
theorem dX0_init_15 : decode cX0_init 15 = .ok (.aload_n 0, 1) := by decide +kernel
theorem dX0_init_16 : decode cX0_init 16 = .ok (.new 18, 3) := by decide +kernel
theorem dX0_init_19 : decode cX0_init 19 = .ok (.dup, 1) := by decide +kernel
theorem dX0_init_20 : decode cX0_init 20 = .ok (.iload_n 2, 1) := by decide +kernel
theorem dX0_init_21 : decode cX0_init 21 = .ok (.invokespecial 20, 3) := by decide +kernel
theorem dX0_init_24 : decode cX0_init 24 = .ok (.putfield 23, 3) := by decide +kernel
theorem dX0_init_27 : decode cX0_init 27 = .ok (.aload_n 0, 1) := by decide +kernel
theorem dX0_init_28 : decode cX0_init 28 = .ok (.new 27, 3) := by decide +kernel
theorem dX0_init_31 : decode cX0_init 31 = .ok (.dup, 1) := by decide +kernel
theorem dX0_init_32 : decode cX0_init 32 = .ok (.invokespecial 29, 3) := by decide +kernel
theorem dX0_init_35 : decode cX0_init 35 = .ok (.putfield 30, 3) := by decide +kernel
theorem dX0_init_38 : decode cX0_init 38 = .ok (.aload_n 0, 1) := by decide +kernel
theorem dX0_init_39 : decode cX0_init 39 = .ok (.new 34, 3) := by decide +kernel
theorem dX0_init_42 : decode cX0_init 42 = .ok (.dup, 1) := by decide +kernel
theorem dX0_init_43 : decode cX0_init 43 = .ok (.iload_n 2, 1) := by decide +kernel
theorem dX0_init_44 : decode cX0_init 44 = .ok (.invokespecial 36, 3) := by decide +kernel
theorem dX0_init_47 : decode cX0_init 47 = .ok (.putfield 37, 3) := by decide +kernel
theorem dX0_init_50 : decode cX0_init 50 = .ok (.aload_n 0, 1) := by decide +kernel
theorem dX0_init_51 : decode cX0_init 51 = .ok (.iconst (-1), 1) := by decide +kernel
theorem dX0_init_52 : decode cX0_init 52 = .ok (.putfield 41, 3) := by decide +kernel
theorem dX0_init_55 : decode cX0_init 55 = .ok (.return_, 1) := by decide +kernel
theorem dX0_share_0 : decode cX0_share 0 = .ok (.aload_n 0, 1) := by decide +kernel
theorem dX0_share_1 : decode cX0_share 1 = .ok (.iload_n 1, 1) := by decide +kernel
theorem dX0_share_2 : decode cX0_share 2 = .ok (.invokevirtual 45, 3) := by decide +kernel
theorem dX0_share_5 : decode cX0_share 5 = .ok (.iload_n 2, 1) := by decide +kernel
theorem dX0_share_6 : decode cX0_share 6 = .ok (.iconst 1, 1) := by decide +kernel
theorem dX0_share_7 : decode cX0_share 7 = .ok (.if_icmp .lt 9, 3) := by decide +kernel
theorem dX0_share_10 : decode cX0_share 10 = .ok (.iload_n 2, 1) := by decide +kernel
theorem dX0_share_11 : decode cX0_share 11 = .ok (.bipush 30, 2) := by decide +kernel
theorem dX0_share_13 : decode cX0_share 13 = .ok (.if_icmp .le 13, 3) := by decide +kernel
theorem dX0_share_16 : decode cX0_share 16 = .ok (.new 48, 3) := by decide +kernel
theorem dX0_share_19 : decode cX0_share 19 = .ok (.dup, 1) := by decide +kernel
theorem dX0_share_20 : decode cX0_share 20 = .ok (.ldc 50, 2) := by decide +kernel
theorem dX0_share_22 : decode cX0_share 22 = .ok (.invokespecial 52, 3) := by decide +kernel
theorem dX0_share_25 : decode cX0_share 25 = .ok (.athrow, 1) := by decide +kernel
theorem dX0_share_26 : decode cX0_share 26 = .ok (.iload 4, 2) := by decide +kernel
theorem dX0_share_28 : decode cX0_share 28 = .ok (.ifCond .lt 10, 3) := by decide +kernel
theorem dX0_share_31 : decode cX0_share 31 = .ok (.iload 4, 2) := by decide +kernel
theorem dX0_share_33 : decode cX0_share 33 = .ok (.bipush 8, 2) := by decide +kernel
theorem dX0_share_35 : decode cX0_share 35 = .ok (.if_icmp .le 13, 3) := by decide +kernel
theorem dX0_share_38 : decode cX0_share 38 = .ok (.new 48, 3) := by decide +kernel
theorem dX0_share_41 : decode cX0_share 41 = .ok (.dup, 1) := by decide +kernel
theorem dX0_share_42 : decode cX0_share 42 = .ok (.ldc 55, 2) := by decide +kernel
theorem dX0_share_44 : decode cX0_share 44 = .ok (.invokespecial 52, 3) := by decide +kernel
theorem dX0_share_47 : decode cX0_share 47 = .ok (.athrow, 1) := by decide +kernel
theorem dX0_share_48 : decode cX0_share 48 = .ok (.aload_n 0, 1) := by decide +kernel
theorem dX0_share_49 : decode cX0_share 49 = .ok (.getfield 23, 3) := by decide +kernel
theorem dX0_share_52 : decode cX0_share 52 = .ok (.getfield 57, 3) := by decide +kernel
theorem dX0_share_55 : decode cX0_share 55 = .ok (.iload_n 1, 1) := by decide +kernel
theorem dX0_share_56 : decode cX0_share 56 = .ok (.iaload, 1) := by decide +kernel
theorem dX0_share_57 : decode cX0_share 57 = .ok (.istore 5, 2) := by decide +kernel
theorem dX0_share_59 : decode cX0_share 59 = .ok (.aload_n 0, 1) := by decide +kernel
theorem dX0_share_60 : decode cX0_share 60 = .ok (.getfield 23, 3) := by decide +kernel
theorem dX0_share_63 : decode cX0_share 63 = .ok (.getfield 57, 3) := by decide +kernel
theorem dX0_share_66 : decode cX0_share 66 = .ok (.iload_n 1, 1) := by decide +kernel
theorem dX0_share_67 : decode cX0_share 67 = .ok (.iload_n 2, 1) := by decide +kernel
theorem dX0_share_68 : decode cX0_share 68 = .ok (.iastore, 1) := by decide +kernel
theorem dX0_share_69 : decode cX0_share 69 = .ok (.aload_n 0, 1) := by decide +kernel
theorem dX0_share_70 : decode cX0_share 70 = .ok (.getfield 23, 3) := by decide +kernel
theorem dX0_share_73 : decode cX0_share 73 = .ok (.getfield 61, 3) := by decide +kernel
theorem dX0_share_76 : decode cX0_share 76 = .ok (.iload_n 1, 1) := by decide +kernel
theorem dX0_share_77 : decode cX0_share 77 = .ok (.iload_n 3, 1) := by decide +kernel
theorem dX0_share_78 : decode cX0_share 78 = .ok (.iastore, 1) := by decide +kernel
theorem dX0_share_79 : decode cX0_share 79 = .ok (.aload_n 0, 1) := by decide +kernel
theorem dX0_share_80 : decode cX0_share 80 = .ok (.getfield 23, 3) := by decide +kernel
theorem dX0_share_83 : decode cX0_share 83 = .ok (.getfield 64, 3) := by decide +kernel
theorem dX0_share_86 : decode cX0_share 86 = .ok (.iload_n 1, 1) := by decide +kernel
theorem dX0_share_87 : decode cX0_share 87 = .ok (.iload 4, 2) := by decide +kernel
theorem dX0_share_89 : decode cX0_share 89 = .ok (.iastore, 1) := by decide +kernel
theorem dX0_share_90 : decode cX0_share 90 = .ok (.iload 5, 2) := by decide +kernel
theorem dX0_share_92 : decode cX0_share 92 = .ok (.ireturn, 1) := by decide +kernel
theorem dX0_fails_0 : decode cX0_fails 0 = .ok (.aload_n 0, 1) := by decide +kernel
theorem dX0_fails_1 : decode cX0_fails 1 = .ok (.iload_n 1, 1) := by decide +kernel
theorem dX0_fails_2 : decode cX0_fails 2 = .ok (.invokevirtual 45, 3) := by decide +kernel
theorem dX0_fails_5 : decode cX0_fails 5 = .ok (.iload_n 2, 1) := by decide +kernel
theorem dX0_fails_6 : decode cX0_fails 6 = .ok (.iconst 1, 1) := by decide +kernel
theorem dX0_fails_7 : decode cX0_fails 7 = .ok (.if_icmp .lt 9, 3) := by decide +kernel
theorem dX0_fails_10 : decode cX0_fails 10 = .ok (.iload_n 2, 1) := by decide +kernel
theorem dX0_fails_11 : decode cX0_fails 11 = .ok (.bipush 30, 2) := by decide +kernel
theorem dX0_fails_13 : decode cX0_fails 13 = .ok (.if_icmp .le 13, 3) := by decide +kernel
theorem dX0_fails_16 : decode cX0_fails 16 = .ok (.new 48, 3) := by decide +kernel
theorem dX0_fails_19 : decode cX0_fails 19 = .ok (.dup, 1) := by decide +kernel
theorem dX0_fails_20 : decode cX0_fails 20 = .ok (.ldc 67, 2) := by decide +kernel
theorem dX0_fails_22 : decode cX0_fails 22 = .ok (.invokespecial 52, 3) := by decide +kernel
theorem dX0_fails_25 : decode cX0_fails 25 = .ok (.athrow, 1) := by decide +kernel
theorem dX0_fails_26 : decode cX0_fails 26 = .ok (.iload_n 3, 1) := by decide +kernel
theorem dX0_fails_27 : decode cX0_fails 27 = .ok (.ifCond .lt 8, 3) := by decide +kernel
theorem dX0_fails_30 : decode cX0_fails 30 = .ok (.iload_n 3, 1) := by decide +kernel
theorem dX0_fails_31 : decode cX0_fails 31 = .ok (.iconst 4, 1) := by decide +kernel
theorem dX0_fails_32 : decode cX0_fails 32 = .ok (.if_icmp .le 13, 3) := by decide +kernel
theorem dX0_fails_35 : decode cX0_fails 35 = .ok (.new 48, 3) := by decide +kernel
theorem dX0_fails_38 : decode cX0_fails 38 = .ok (.dup, 1) := by decide +kernel
theorem dX0_fails_39 : decode cX0_fails 39 = .ok (.ldc 69, 2) := by decide +kernel
theorem dX0_fails_41 : decode cX0_fails 41 = .ok (.invokespecial 52, 3) := by decide +kernel
theorem dX0_fails_44 : decode cX0_fails 44 = .ok (.athrow, 1) := by decide +kernel
theorem dX0_fails_45 : decode cX0_fails 45 = .ok (.aload_n 0, 1) := by decide +kernel
theorem dX0_fails_46 : decode cX0_fails 46 = .ok (.getfield 23, 3) := by decide +kernel
theorem dX0_fails_49 : decode cX0_fails 49 = .ok (.getfield 71, 3) := by decide +kernel
theorem dX0_fails_52 : decode cX0_fails 52 = .ok (.iload_n 1, 1) := by decide +kernel
theorem dX0_fails_53 : decode cX0_fails 53 = .ok (.iaload, 1) := by decide +kernel
theorem dX0_fails_54 : decode cX0_fails 54 = .ok (.istore 4, 2) := by decide +kernel
theorem dX0_fails_56 : decode cX0_fails 56 = .ok (.aload_n 0, 1) := by decide +kernel
theorem dX0_fails_57 : decode cX0_fails 57 = .ok (.getfield 23, 3) := by decide +kernel
theorem dX0_fails_60 : decode cX0_fails 60 = .ok (.getfield 74, 3) := by decide +kernel
theorem dX0_fails_63 : decode cX0_fails 63 = .ok (.iload_n 1, 1) := by decide +kernel
theorem dX0_fails_64 : decode cX0_fails 64 = .ok (.iload_n 2, 1) := by decide +kernel
theorem dX0_fails_65 : decode cX0_fails 65 = .ok (.iastore, 1) := by decide +kernel
theorem dX0_fails_66 : decode cX0_fails 66 = .ok (.aload_n 0, 1) := by decide +kernel
theorem dX0_fails_67 : decode cX0_fails 67 = .ok (.getfield 23, 3) := by decide +kernel
theorem dX0_fails_70 : decode cX0_fails 70 = .ok (.getfield 71, 3) := by decide +kernel
theorem dX0_fails_73 : decode cX0_fails 73 = .ok (.iload_n 1, 1) := by decide +kernel
theorem dX0_fails_74 : decode cX0_fails 74 = .ok (.iload_n 3, 1) := by decide +kernel
theorem dX0_fails_75 : decode cX0_fails 75 = .ok (.iastore, 1) := by decide +kernel
theorem dX0_fails_76 : decode cX0_fails 76 = .ok (.iload 4, 2) := by decide +kernel
theorem dX0_fails_78 : decode cX0_fails 78 = .ok (.ireturn, 1) := by decide +kernel
theorem dX0_act_0 : decode cX0_act 0 = .ok (.iload_n 1, 1) := by decide +kernel
theorem dX0_act_1 : decode cX0_act 1 = .ok (.ifCond .lt 14, 3) := by decide +kernel
theorem dX0_act_4 : decode cX0_act 4 = .ok (.iload_n 1, 1) := by decide +kernel
theorem dX0_act_5 : decode cX0_act 5 = .ok (.aload_n 0, 1) := by decide +kernel
theorem dX0_act_6 : decode cX0_act 6 = .ok (.getfield 23, 3) := by decide +kernel
theorem dX0_act_9 : decode cX0_act 9 = .ok (.getfield 77, 3) := by decide +kernel
theorem dX0_act_12 : decode cX0_act 12 = .ok (.if_icmp .le 13, 3) := by decide +kernel
theorem dX0_act_15 : decode cX0_act 15 = .ok (.new 80, 3) := by decide +kernel
theorem dX0_act_18 : decode cX0_act 18 = .ok (.dup, 1) := by decide +kernel
theorem dX0_act_19 : decode cX0_act 19 = .ok (.ldc 82, 2) := by decide +kernel
theorem dX0_act_21 : decode cX0_act 21 = .ok (.invokespecial 84, 3) := by decide +kernel
theorem dX0_act_24 : decode cX0_act 24 = .ok (.athrow, 1) := by decide +kernel
theorem dX0_act_25 : decode cX0_act 25 = .ok (.aload_n 0, 1) := by decide +kernel
theorem dX0_act_26 : decode cX0_act 26 = .ok (.getfield 30, 3) := by decide +kernel
theorem dX0_act_29 : decode cX0_act 29 = .ok (.getfield 85, 3) := by decide +kernel
theorem dX0_act_32 : decode cX0_act 32 = .ok (.bipush 24, 2) := by decide +kernel
theorem dX0_act_34 : decode cX0_act 34 = .ok (.if_icmp .lt 13, 3) := by decide +kernel
theorem dX0_act_37 : decode cX0_act 37 = .ok (.new 86, 3) := by decide +kernel
theorem dX0_act_40 : decode cX0_act 40 = .ok (.dup, 1) := by decide +kernel
theorem dX0_act_41 : decode cX0_act 41 = .ok (.ldc 88, 2) := by decide +kernel
theorem dX0_act_43 : decode cX0_act 43 = .ok (.invokespecial 90, 3) := by decide +kernel
theorem dX0_act_46 : decode cX0_act 46 = .ok (.athrow, 1) := by decide +kernel
theorem dX0_act_47 : decode cX0_act 47 = .ok (.aload_n 0, 1) := by decide +kernel
theorem dX0_act_48 : decode cX0_act 48 = .ok (.getfield 30, 3) := by decide +kernel
theorem dX0_act_51 : decode cX0_act 51 = .ok (.iload_n 1, 1) := by decide +kernel
theorem dX0_act_52 : decode cX0_act 52 = .ok (.iload_n 2, 1) := by decide +kernel
theorem dX0_act_53 : decode cX0_act 53 = .ok (.invokevirtual 91, 3) := by decide +kernel
theorem dX0_act_56 : decode cX0_act 56 = .ok (.ireturn, 1) := by decide +kernel
theorem dX0_stop_0 : decode cX0_stop 0 = .ok (.iload_n 1, 1) := by decide +kernel
theorem dX0_stop_1 : decode cX0_stop 1 = .ok (.iconst (-1), 1) := by decide +kernel
theorem dX0_stop_2 : decode cX0_stop 2 = .ok (.if_icmp .eq 8, 3) := by decide +kernel
theorem dX0_stop_5 : decode cX0_stop 5 = .ok (.aload_n 0, 1) := by decide +kernel
theorem dX0_stop_6 : decode cX0_stop 6 = .ok (.iload_n 1, 1) := by decide +kernel
theorem dX0_stop_7 : decode cX0_stop 7 = .ok (.invokevirtual 45, 3) := by decide +kernel
theorem dX0_stop_10 : decode cX0_stop 10 = .ok (.aload_n 0, 1) := by decide +kernel
theorem dX0_stop_11 : decode cX0_stop 11 = .ok (.getfield 41, 3) := by decide +kernel
theorem dX0_stop_14 : decode cX0_stop 14 = .ok (.istore_n 2, 1) := by decide +kernel
theorem dX0_stop_15 : decode cX0_stop 15 = .ok (.aload_n 0, 1) := by decide +kernel
theorem dX0_stop_16 : decode cX0_stop 16 = .ok (.iload_n 1, 1) := by decide +kernel
theorem dX0_stop_17 : decode cX0_stop 17 = .ok (.putfield 41, 3) := by decide +kernel
theorem dX0_stop_20 : decode cX0_stop 20 = .ok (.iload_n 2, 1) := by decide +kernel
theorem dX0_stop_21 : decode cX0_stop 21 = .ok (.ireturn, 1) := by decide +kernel
theorem dX0_run_0 : decode cX0_run 0 = .ok (.iload_n 1, 1) := by decide +kernel
theorem dX0_run_1 : decode cX0_run 1 = .ok (.iconst 1, 1) := by decide +kernel
theorem dX0_run_2 : decode cX0_run 2 = .ok (.if_icmp .lt 9, 3) := by decide +kernel
theorem dX0_run_5 : decode cX0_run 5 = .ok (.iload_n 1, 1) := by decide +kernel
theorem dX0_run_6 : decode cX0_run 6 = .ok (.bipush 6, 2) := by decide +kernel
theorem dX0_run_8 : decode cX0_run 8 = .ok (.if_icmp .le 13, 3) := by decide +kernel
theorem dX0_run_11 : decode cX0_run 11 = .ok (.new 48, 3) := by decide +kernel
theorem dX0_run_14 : decode cX0_run 14 = .ok (.dup, 1) := by decide +kernel
theorem dX0_run_15 : decode cX0_run 15 = .ok (.ldc 94, 2) := by decide +kernel
theorem dX0_run_17 : decode cX0_run 17 = .ok (.invokespecial 52, 3) := by decide +kernel
theorem dX0_run_20 : decode cX0_run 20 = .ok (.athrow, 1) := by decide +kernel
theorem dX0_run_21 : decode cX0_run 21 = .ok (.iload_n 1, 1) := by decide +kernel
theorem dX0_run_22 : decode cX0_run 22 = .ok (.aload_n 0, 1) := by decide +kernel
theorem dX0_run_23 : decode cX0_run 23 = .ok (.getfield 23, 3) := by decide +kernel
theorem dX0_run_26 : decode cX0_run 26 = .ok (.invokevirtual 96, 3) := by decide +kernel
theorem dX0_run_29 : decode cX0_run 29 = .ok (.isub, 1) := by decide +kernel
theorem dX0_run_30 : decode cX0_run 30 = .ok (.istore_n 3, 1) := by decide +kernel
theorem dX0_run_31 : decode cX0_run 31 = .ok (.iload_n 3, 1) := by decide +kernel
theorem dX0_run_32 : decode cX0_run 32 = .ok (.iconst 1, 1) := by decide +kernel
theorem dX0_run_33 : decode cX0_run 33 = .ok (.if_icmp .ge 16, 3) := by decide +kernel
theorem dX0_run_36 : decode cX0_run 36 = .ok (.aload_n 0, 1) := by decide +kernel
theorem dX0_run_37 : decode cX0_run 37 = .ok (.dup, 1) := by decide +kernel
theorem dX0_run_38 : decode cX0_run 38 = .ok (.getfield 100, 3) := by decide +kernel
theorem dX0_run_41 : decode cX0_run 41 = .ok (.iconst 1, 1) := by decide +kernel
theorem dX0_run_42 : decode cX0_run 42 = .ok (.iadd, 1) := by decide +kernel
theorem dX0_run_43 : decode cX0_run 43 = .ok (.putfield 100, 3) := by decide +kernel
theorem dX0_run_46 : decode cX0_run 46 = .ok (.bipush (-2), 2) := by decide +kernel
theorem dX0_run_48 : decode cX0_run 48 = .ok (.ireturn, 1) := by decide +kernel
theorem dX0_run_49 : decode cX0_run 49 = .ok (.aload_n 0, 1) := by decide +kernel
theorem dX0_run_50 : decode cX0_run 50 = .ok (.dup, 1) := by decide +kernel
theorem dX0_run_51 : decode cX0_run 51 = .ok (.getfield 103, 3) := by decide +kernel
theorem dX0_run_54 : decode cX0_run 54 = .ok (.iconst 1, 1) := by decide +kernel
theorem dX0_run_55 : decode cX0_run 55 = .ok (.iadd, 1) := by decide +kernel
theorem dX0_run_56 : decode cX0_run 56 = .ok (.putfield 103, 3) := by decide +kernel
theorem dX0_run_59 : decode cX0_run 59 = .ok (.aload_n 0, 1) := by decide +kernel
theorem dX0_run_60 : decode cX0_run 60 = .ok (.getfield 37, 3) := by decide +kernel
theorem dX0_run_63 : decode cX0_run 63 = .ok (.iload_n 3, 1) := by decide +kernel
theorem dX0_run_64 : decode cX0_run 64 = .ok (.putfield 106, 3) := by decide +kernel
theorem dX0_run_67 : decode cX0_run 67 = .ok (.aload_n 0, 1) := by decide +kernel
theorem dX0_run_68 : decode cX0_run 68 = .ok (.getfield 37, 3) := by decide +kernel
theorem dX0_run_71 : decode cX0_run 71 = .ok (.aload_n 0, 1) := by decide +kernel
theorem dX0_run_72 : decode cX0_run 72 = .ok (.getfield 23, 3) := by decide +kernel
theorem dX0_run_75 : decode cX0_run 75 = .ok (.invokevirtual 109, 3) := by decide +kernel
theorem dX0_run_78 : decode cX0_run 78 = .ok (.aload_n 0, 1) := by decide +kernel
theorem dX0_run_79 : decode cX0_run 79 = .ok (.getfield 37, 3) := by decide +kernel
theorem dX0_run_82 : decode cX0_run 82 = .ok (.aload_n 0, 1) := by decide +kernel
theorem dX0_run_83 : decode cX0_run 83 = .ok (.getfield 23, 3) := by decide +kernel
theorem dX0_run_86 : decode cX0_run 86 = .ok (.aload_n 0, 1) := by decide +kernel
theorem dX0_run_87 : decode cX0_run 87 = .ok (.getfield 30, 3) := by decide +kernel
theorem dX0_run_90 : decode cX0_run 90 = .ok (.aload_n 0, 1) := by decide +kernel
theorem dX0_run_91 : decode cX0_run 91 = .ok (.getfield 41, 3) := by decide +kernel
theorem dX0_run_94 : decode cX0_run 94 = .ok (.invokevirtual 113, 3) := by decide +kernel
theorem dX0_run_97 : decode cX0_run 97 = .ok (.ireturn, 1) := by decide +kernel
theorem dX0_joined_0 : decode cX0_joined 0 = .ok (.aload_n 0, 1) := by decide +kernel
theorem dX0_joined_1 : decode cX0_joined 1 = .ok (.invokevirtual 117, 3) := by decide +kernel
theorem dX0_joined_4 : decode cX0_joined 4 = .ok (.aload_n 0, 1) := by decide +kernel
theorem dX0_joined_5 : decode cX0_joined 5 = .ok (.getfield 37, 3) := by decide +kernel
theorem dX0_joined_8 : decode cX0_joined 8 = .ok (.getfield 120, 3) := by decide +kernel
theorem dX0_joined_11 : decode cX0_joined 11 = .ok (.lreturn, 1) := by decide +kernel
theorem dX0_many_0 : decode cX0_many 0 = .ok (.aload_n 0, 1) := by decide +kernel
theorem dX0_many_1 : decode cX0_many 1 = .ok (.invokevirtual 117, 3) := by decide +kernel
theorem dX0_many_4 : decode cX0_many 4 = .ok (.aload_n 0, 1) := by decide +kernel
theorem dX0_many_5 : decode cX0_many 5 = .ok (.getfield 37, 3) := by decide +kernel
theorem dX0_many_8 : decode cX0_many 8 = .ok (.getfield 124, 3) := by decide +kernel
theorem dX0_many_11 : decode cX0_many 11 = .ok (.ireturn, 1) := by decide +kernel
theorem dX0_value_0 : decode cX0_value 0 = .ok (.aload_n 0, 1) := by decide +kernel
theorem dX0_value_1 : decode cX0_value 1 = .ok (.iload_n 1, 1) := by decide +kernel
theorem dX0_value_2 : decode cX0_value 2 = .ok (.invokevirtual 45, 3) := by decide +kernel
theorem dX0_value_5 : decode cX0_value 5 = .ok (.aload_n 0, 1) := by decide +kernel
theorem dX0_value_6 : decode cX0_value 6 = .ok (.invokevirtual 117, 3) := by decide +kernel
theorem dX0_value_9 : decode cX0_value 9 = .ok (.aload_n 0, 1) := by decide +kernel
theorem dX0_value_10 : decode cX0_value 10 = .ok (.getfield 37, 3) := by decide +kernel
theorem dX0_value_13 : decode cX0_value 13 = .ok (.getfield 127, 3) := by decide +kernel
theorem dX0_value_16 : decode cX0_value 16 = .ok (.iload_n 1, 1) := by decide +kernel
theorem dX0_value_17 : decode cX0_value 17 = .ok (.iaload, 1) := by decide +kernel
theorem dX0_value_18 : decode cX0_value 18 = .ok (.ireturn, 1) := by decide +kernel
theorem dX0_chain_0 : decode cX0_chain 0 = .ok (.aload_n 0, 1) := by decide +kernel
theorem dX0_chain_1 : decode cX0_chain 1 = .ok (.iload_n 1, 1) := by decide +kernel
theorem dX0_chain_2 : decode cX0_chain 2 = .ok (.invokevirtual 45, 3) := by decide +kernel
theorem dX0_chain_5 : decode cX0_chain 5 = .ok (.iload_n 2, 1) := by decide +kernel
theorem dX0_chain_6 : decode cX0_chain 6 = .ok (.ifCond .lt 16, 3) := by decide +kernel
theorem dX0_chain_9 : decode cX0_chain 9 = .ok (.iload_n 2, 1) := by decide +kernel
theorem dX0_chain_10 : decode cX0_chain 10 = .ok (.aload_n 0, 1) := by decide +kernel
theorem dX0_chain_11 : decode cX0_chain 11 = .ok (.getfield 23, 3) := by decide +kernel
theorem dX0_chain_14 : decode cX0_chain 14 = .ok (.getfield 57, 3) := by decide +kernel
theorem dX0_chain_17 : decode cX0_chain 17 = .ok (.iload_n 1, 1) := by decide +kernel
theorem dX0_chain_18 : decode cX0_chain 18 = .ok (.iaload, 1) := by decide +kernel
theorem dX0_chain_19 : decode cX0_chain 19 = .ok (.if_icmp .le 13, 3) := by decide +kernel
theorem dX0_chain_22 : decode cX0_chain 22 = .ok (.new 80, 3) := by decide +kernel
theorem dX0_chain_25 : decode cX0_chain 25 = .ok (.dup, 1) := by decide +kernel
theorem dX0_chain_26 : decode cX0_chain 26 = .ok (.ldc 130, 2) := by decide +kernel
theorem dX0_chain_28 : decode cX0_chain 28 = .ok (.invokespecial 84, 3) := by decide +kernel
theorem dX0_chain_31 : decode cX0_chain 31 = .ok (.athrow, 1) := by decide +kernel
theorem dX0_chain_32 : decode cX0_chain 32 = .ok (.aload_n 0, 1) := by decide +kernel
theorem dX0_chain_33 : decode cX0_chain 33 = .ok (.getfield 23, 3) := by decide +kernel
theorem dX0_chain_36 : decode cX0_chain 36 = .ok (.iload_n 1, 1) := by decide +kernel
theorem dX0_chain_37 : decode cX0_chain 37 = .ok (.iload_n 2, 1) := by decide +kernel
theorem dX0_chain_38 : decode cX0_chain 38 = .ok (.invokevirtual 132, 3) := by decide +kernel
theorem dX0_chain_41 : decode cX0_chain 41 = .ok (.lreturn, 1) := by decide +kernel
theorem dX0_came_0 : decode cX0_came 0 = .ok (.iload_n 1, 1) := by decide +kernel
theorem dX0_came_1 : decode cX0_came 1 = .ok (.ifCond .lt 14, 3) := by decide +kernel
theorem dX0_came_4 : decode cX0_came 4 = .ok (.iload_n 1, 1) := by decide +kernel
theorem dX0_came_5 : decode cX0_came 5 = .ok (.aload_n 0, 1) := by decide +kernel
theorem dX0_came_6 : decode cX0_came 6 = .ok (.getfield 30, 3) := by decide +kernel
theorem dX0_came_9 : decode cX0_came 9 = .ok (.getfield 85, 3) := by decide +kernel
theorem dX0_came_12 : decode cX0_came 12 = .ok (.if_icmp .lt 13, 3) := by decide +kernel
theorem dX0_came_15 : decode cX0_came 15 = .ok (.new 80, 3) := by decide +kernel
theorem dX0_came_18 : decode cX0_came 18 = .ok (.dup, 1) := by decide +kernel
theorem dX0_came_19 : decode cX0_came 19 = .ok (.ldc 136, 2) := by decide +kernel
theorem dX0_came_21 : decode cX0_came 21 = .ok (.invokespecial 84, 3) := by decide +kernel
theorem dX0_came_24 : decode cX0_came 24 = .ok (.athrow, 1) := by decide +kernel
theorem dX0_came_25 : decode cX0_came 25 = .ok (.aload_n 0, 1) := by decide +kernel
theorem dX0_came_26 : decode cX0_came 26 = .ok (.invokevirtual 117, 3) := by decide +kernel
theorem dX0_came_29 : decode cX0_came 29 = .ok (.aload_n 0, 1) := by decide +kernel
theorem dX0_came_30 : decode cX0_came 30 = .ok (.getfield 37, 3) := by decide +kernel
theorem dX0_came_33 : decode cX0_came 33 = .ok (.getfield 138, 3) := by decide +kernel
theorem dX0_came_36 : decode cX0_came 36 = .ok (.iload_n 1, 1) := by decide +kernel
theorem dX0_came_37 : decode cX0_came 37 = .ok (.iaload, 1) := by decide +kernel
theorem dX0_came_38 : decode cX0_came 38 = .ok (.ireturn, 1) := by decide +kernel
theorem dX0_begun_0 : decode cX0_begun 0 = .ok (.aload_n 0, 1) := by decide +kernel
theorem dX0_begun_1 : decode cX0_begun 1 = .ok (.iload_n 1, 1) := by decide +kernel
theorem dX0_begun_2 : decode cX0_begun 2 = .ok (.invokevirtual 45, 3) := by decide +kernel
theorem dX0_begun_5 : decode cX0_begun 5 = .ok (.aload_n 0, 1) := by decide +kernel
theorem dX0_begun_6 : decode cX0_begun 6 = .ok (.invokevirtual 117, 3) := by decide +kernel
theorem dX0_begun_9 : decode cX0_begun 9 = .ok (.aload_n 0, 1) := by decide +kernel
theorem dX0_begun_10 : decode cX0_begun 10 = .ok (.getfield 37, 3) := by decide +kernel
theorem dX0_begun_13 : decode cX0_begun 13 = .ok (.getfield 141, 3) := by decide +kernel
theorem dX0_begun_16 : decode cX0_begun 16 = .ok (.iload_n 1, 1) := by decide +kernel
theorem dX0_begun_17 : decode cX0_begun 17 = .ok (.iaload, 1) := by decide +kernel
theorem dX0_begun_18 : decode cX0_begun 18 = .ok (.ireturn, 1) := by decide +kernel
theorem dX0_steps_0 : decode cX0_steps 0 = .ok (.iload_n 1, 1) := by decide +kernel
theorem dX0_steps_1 : decode cX0_steps 1 = .ok (.ifCond .lt 8, 3) := by decide +kernel
theorem dX0_steps_4 : decode cX0_steps 4 = .ok (.iload_n 1, 1) := by decide +kernel
theorem dX0_steps_5 : decode cX0_steps 5 = .ok (.iconst 1, 1) := by decide +kernel
theorem dX0_steps_6 : decode cX0_steps 6 = .ok (.if_icmp .le 13, 3) := by decide +kernel
theorem dX0_steps_9 : decode cX0_steps 9 = .ok (.new 80, 3) := by decide +kernel
theorem dX0_steps_12 : decode cX0_steps 12 = .ok (.dup, 1) := by decide +kernel
theorem dX0_steps_13 : decode cX0_steps 13 = .ok (.ldc 144, 2) := by decide +kernel
theorem dX0_steps_15 : decode cX0_steps 15 = .ok (.invokespecial 84, 3) := by decide +kernel
theorem dX0_steps_18 : decode cX0_steps 18 = .ok (.athrow, 1) := by decide +kernel
theorem dX0_steps_19 : decode cX0_steps 19 = .ok (.aload_n 0, 1) := by decide +kernel
theorem dX0_steps_20 : decode cX0_steps 20 = .ok (.invokevirtual 117, 3) := by decide +kernel
theorem dX0_steps_23 : decode cX0_steps 23 = .ok (.iload_n 1, 1) := by decide +kernel
theorem dX0_steps_24 : decode cX0_steps 24 = .ok (.ifCond .ne 13, 3) := by decide +kernel
theorem dX0_steps_27 : decode cX0_steps 27 = .ok (.aload_n 0, 1) := by decide +kernel
theorem dX0_steps_28 : decode cX0_steps 28 = .ok (.getfield 37, 3) := by decide +kernel
theorem dX0_steps_31 : decode cX0_steps 31 = .ok (.getfield 146, 3) := by decide +kernel
theorem dX0_steps_34 : decode cX0_steps 34 = .ok (.goto 10, 3) := by decide +kernel
theorem dX0_steps_37 : decode cX0_steps 37 = .ok (.aload_n 0, 1) := by decide +kernel
theorem dX0_steps_38 : decode cX0_steps 38 = .ok (.getfield 37, 3) := by decide +kernel
theorem dX0_steps_41 : decode cX0_steps 41 = .ok (.getfield 106, 3) := by decide +kernel
theorem dX0_steps_44 : decode cX0_steps 44 = .ok (.ireturn, 1) := by decide +kernel
theorem dX0_count_0 : decode cX0_count 0 = .ok (.iload_n 1, 1) := by decide +kernel
theorem dX0_count_1 : decode cX0_count 1 = .ok (.tableswitch 57 0 3 #[31, 39, 47, 52], 31) := by decide +kernel
theorem dX0_count_32 : decode cX0_count 32 = .ok (.aload_n 0, 1) := by decide +kernel
theorem dX0_count_33 : decode cX0_count 33 = .ok (.getfield 23, 3) := by decide +kernel
theorem dX0_count_36 : decode cX0_count 36 = .ok (.getfield 77, 3) := by decide +kernel
theorem dX0_count_39 : decode cX0_count 39 = .ok (.ireturn, 1) := by decide +kernel
theorem dX0_count_40 : decode cX0_count 40 = .ok (.aload_n 0, 1) := by decide +kernel
theorem dX0_count_41 : decode cX0_count 41 = .ok (.getfield 30, 3) := by decide +kernel
theorem dX0_count_44 : decode cX0_count 44 = .ok (.getfield 85, 3) := by decide +kernel
theorem dX0_count_47 : decode cX0_count 47 = .ok (.ireturn, 1) := by decide +kernel
theorem dX0_count_48 : decode cX0_count 48 = .ok (.aload_n 0, 1) := by decide +kernel
theorem dX0_count_49 : decode cX0_count 49 = .ok (.getfield 103, 3) := by decide +kernel
theorem dX0_count_52 : decode cX0_count 52 = .ok (.ireturn, 1) := by decide +kernel
theorem dX0_count_53 : decode cX0_count 53 = .ok (.aload_n 0, 1) := by decide +kernel
theorem dX0_count_54 : decode cX0_count 54 = .ok (.getfield 100, 3) := by decide +kernel
theorem dX0_count_57 : decode cX0_count 57 = .ok (.ireturn, 1) := by decide +kernel
theorem dX0_count_58 : decode cX0_count 58 = .ok (.new 80, 3) := by decide +kernel
theorem dX0_count_61 : decode cX0_count 61 = .ok (.dup, 1) := by decide +kernel
theorem dX0_count_62 : decode cX0_count 62 = .ok (.ldc 149, 2) := by decide +kernel
theorem dX0_count_64 : decode cX0_count 64 = .ok (.invokespecial 84, 3) := by decide +kernel
theorem dX0_count_67 : decode cX0_count 67 = .ok (.athrow, 1) := by decide +kernel
theorem dX0_needShare_0 : decode cX0_needShare 0 = .ok (.iload_n 1, 1) := by decide +kernel
theorem dX0_needShare_1 : decode cX0_needShare 1 = .ok (.ifCond .lt 14, 3) := by decide +kernel
theorem dX0_needShare_4 : decode cX0_needShare 4 = .ok (.iload_n 1, 1) := by decide +kernel
theorem dX0_needShare_5 : decode cX0_needShare 5 = .ok (.aload_n 0, 1) := by decide +kernel
theorem dX0_needShare_6 : decode cX0_needShare 6 = .ok (.getfield 23, 3) := by decide +kernel
theorem dX0_needShare_9 : decode cX0_needShare 9 = .ok (.getfield 77, 3) := by decide +kernel
theorem dX0_needShare_12 : decode cX0_needShare 12 = .ok (.if_icmp .lt 13, 3) := by decide +kernel
theorem dX0_needShare_15 : decode cX0_needShare 15 = .ok (.new 80, 3) := by decide +kernel
theorem dX0_needShare_18 : decode cX0_needShare 18 = .ok (.dup, 1) := by decide +kernel
theorem dX0_needShare_19 : decode cX0_needShare 19 = .ok (.ldc 151, 2) := by decide +kernel
theorem dX0_needShare_21 : decode cX0_needShare 21 = .ok (.invokespecial 84, 3) := by decide +kernel
theorem dX0_needShare_24 : decode cX0_needShare 24 = .ok (.athrow, 1) := by decide +kernel
theorem dX0_needShare_25 : decode cX0_needShare 25 = .ok (.return_, 1) := by decide +kernel
theorem dX0_needRun_0 : decode cX0_needRun 0 = .ok (.aload_n 0, 1) := by decide +kernel
theorem dX0_needRun_1 : decode cX0_needRun 1 = .ok (.getfield 37, 3) := by decide +kernel
theorem dX0_needRun_4 : decode cX0_needRun 4 = .ok (.getfield 153, 3) := by decide +kernel
theorem dX0_needRun_7 : decode cX0_needRun 7 = .ok (.ifCond .ne 13, 3) := by decide +kernel
theorem dX0_needRun_10 : decode cX0_needRun 10 = .ok (.new 86, 3) := by decide +kernel
theorem dX0_needRun_13 : decode cX0_needRun 13 = .ok (.dup, 1) := by decide +kernel
theorem dX0_needRun_14 : decode cX0_needRun 14 = .ok (.ldc 157, 2) := by decide +kernel
theorem dX0_needRun_16 : decode cX0_needRun 16 = .ok (.invokespecial 90, 3) := by decide +kernel
theorem dX0_needRun_19 : decode cX0_needRun 19 = .ok (.athrow, 1) := by decide +kernel
theorem dX0_needRun_20 : decode cX0_needRun 20 = .ok (.return_, 1) := by decide +kernel
theorem dX1_init_0 : decode cX1_init 0 = .ok (.aload_n 0, 1) := by decide +kernel
theorem dX1_init_1 : decode cX1_init 1 = .ok (.invokespecial 1, 3) := by decide +kernel
theorem dX1_init_4 : decode cX1_init 4 = .ok (.aload_n 0, 1) := by decide +kernel
theorem dX1_init_5 : decode cX1_init 5 = .ok (.iload_n 1, 1) := by decide +kernel
theorem dX1_init_6 : decode cX1_init 6 = .ok (.putfield 7, 3) := by decide +kernel
theorem dX1_init_9 : decode cX1_init 9 = .ok (.aload_n 0, 1) := by decide +kernel
theorem dX1_init_10 : decode cX1_init 10 = .ok (.iload_n 1, 1) := by decide +kernel
theorem dX1_init_11 : decode cX1_init 11 = .ok (.newarray .int, 2) := by decide +kernel
theorem dX1_init_13 : decode cX1_init 13 = .ok (.putfield 13, 3) := by decide +kernel
theorem dX1_init_16 : decode cX1_init 16 = .ok (.aload_n 0, 1) := by decide +kernel
theorem dX1_init_17 : decode cX1_init 17 = .ok (.iload_n 1, 1) := by decide +kernel
theorem dX1_init_18 : decode cX1_init 18 = .ok (.newarray .int, 2) := by decide +kernel
theorem dX1_init_20 : decode cX1_init 20 = .ok (.putfield 17, 3) := by decide +kernel
theorem dX1_init_23 : decode cX1_init 23 = .ok (.aload_n 0, 1) := by decide +kernel
theorem dX1_init_24 : decode cX1_init 24 = .ok (.iload_n 1, 1) := by decide +kernel
theorem dX1_init_25 : decode cX1_init 25 = .ok (.newarray .int, 2) := by decide +kernel
theorem dX1_init_27 : decode cX1_init 27 = .ok (.putfield 20, 3) := by decide +kernel
theorem dX1_init_30 : decode cX1_init 30 = .ok (.aload_n 0, 1) := by decide +kernel
theorem dX1_init_31 : decode cX1_init 31 = .ok (.iload_n 1, 1) := by decide +kernel
theorem dX1_init_32 : decode cX1_init 32 = .ok (.newarray .int, 2) := by decide +kernel
theorem dX1_init_34 : decode cX1_init 34 = .ok (.putfield 23, 3) := by decide +kernel
theorem dX1_init_37 : decode cX1_init 37 = .ok (.aload_n 0, 1) := by decide +kernel
theorem dX1_init_38 : decode cX1_init 38 = .ok (.iload_n 1, 1) := by decide +kernel
theorem dX1_init_39 : decode cX1_init 39 = .ok (.newarray .int, 2) := by decide +kernel
theorem dX1_init_41 : decode cX1_init 41 = .ok (.putfield 26, 3) := by decide +kernel
theorem dX1_init_44 : decode cX1_init 44 = .ok (.aload_n 0, 1) := by decide +kernel
theorem dX1_init_45 : decode cX1_init 45 = .ok (.getfield 13, 3) := by decide +kernel
theorem dX1_init_48 : decode cX1_init 48 = .ok (.iconst 1, 1) := by decide +kernel
theorem dX1_init_49 : decode cX1_init 49 = .ok (.invokestatic 29, 3) := by decide +kernel
theorem dX1_init_52 : decode cX1_init 52 = .ok (.aload_n 0, 1) := by decide +kernel
theorem dX1_init_53 : decode cX1_init 53 = .ok (.getfield 23, 3) := by decide +kernel
theorem dX1_init_56 : decode cX1_init 56 = .ok (.iconst 1, 1) := by decide +kernel
theorem dX1_init_57 : decode cX1_init 57 = .ok (.invokestatic 29, 3) := by decide +kernel
theorem dX1_init_60 : decode cX1_init 60 = .ok (.return_, 1) := by decide +kernel
theorem dX1_behind_0 : decode cX1_behind 0 = .ok (.ldc2_w 35, 3) := by decide +kernel
theorem dX1_behind_3 : decode cX1_behind 3 = .ok (.aload_n 0, 1) := by decide +kernel
theorem dX1_behind_4 : decode cX1_behind 4 = .ok (.getfield 17, 3) := by decide +kernel
theorem dX1_behind_7 : decode cX1_behind 7 = .ok (.iload_n 1, 1) := by decide +kernel
theorem dX1_behind_8 : decode cX1_behind 8 = .ok (.iaload, 1) := by decide +kernel
end
section
theorem dX1_behind_9 : decode cX1_behind 9 = .ok (.i2l, 1) := by decide +kernel
theorem dX1_behind_10 : decode cX1_behind 10 = .ok (.lmul, 1) := by decide +kernel
theorem dX1_behind_11 : decode cX1_behind 11 = .ok (.iload_n 1, 1) := by decide +kernel
theorem dX1_behind_12 : decode cX1_behind 12 = .ok (.i2l, 1) := by decide +kernel
theorem dX1_behind_13 : decode cX1_behind 13 = .ok (.ladd, 1) := by decide +kernel
theorem dX1_behind_14 : decode cX1_behind 14 = .ok (.lstore_n 3, 1) := by decide +kernel
theorem dX1_behind_15 : decode cX1_behind 15 = .ok (.iconst 0, 1) := by decide +kernel
theorem dX1_behind_16 : decode cX1_behind 16 = .ok (.istore 5, 2) := by decide +kernel
theorem dX1_behind_18 : decode cX1_behind 18 = .ok (.iload 5, 2) := by decide +kernel
theorem dX1_behind_20 : decode cX1_behind 20 = .ok (.iload_n 2, 1) := by decide +kernel
theorem dX1_behind_21 : decode cX1_behind 21 = .ok (.if_icmp .ge 19, 3) := by decide +kernel
theorem dX1_behind_24 : decode cX1_behind 24 = .ok (.ldc2_w 37, 3) := by decide +kernel
theorem dX1_behind_27 : decode cX1_behind 27 = .ok (.lload_n 3, 1) := by decide +kernel
theorem dX1_behind_28 : decode cX1_behind 28 = .ok (.lmul, 1) := by decide +kernel
theorem dX1_behind_29 : decode cX1_behind 29 = .ok (.ldc2_w 39, 3) := by decide +kernel
theorem dX1_behind_32 : decode cX1_behind 32 = .ok (.ladd, 1) := by decide +kernel
theorem dX1_behind_33 : decode cX1_behind 33 = .ok (.lstore_n 3, 1) := by decide +kernel
theorem dX1_behind_34 : decode cX1_behind 34 = .ok (.iinc 5 1, 3) := by decide +kernel
theorem dX1_behind_37 : decode cX1_behind 37 = .ok (.goto (-19), 3) := by decide +kernel
theorem dX1_behind_40 : decode cX1_behind 40 = .ok (.lload_n 3, 1) := by decide +kernel
theorem dX1_behind_41 : decode cX1_behind 41 = .ok (.lreturn, 1) := by decide +kernel
theorem dX1_lastValue_0 : decode cX1_lastValue 0 = .ok (.aload_n 0, 1) := by decide +kernel
theorem dX1_lastValue_1 : decode cX1_lastValue 1 = .ok (.iload_n 1, 1) := by decide +kernel
theorem dX1_lastValue_2 : decode cX1_lastValue 2 = .ok (.aload_n 0, 1) := by decide +kernel
theorem dX1_lastValue_3 : decode cX1_lastValue 3 = .ok (.getfield 13, 3) := by decide +kernel
theorem dX1_lastValue_6 : decode cX1_lastValue 6 = .ok (.iload_n 1, 1) := by decide +kernel
theorem dX1_lastValue_7 : decode cX1_lastValue 7 = .ok (.iaload, 1) := by decide +kernel
theorem dX1_lastValue_8 : decode cX1_lastValue 8 = .ok (.invokevirtual 41, 3) := by decide +kernel
theorem dX1_lastValue_11 : decode cX1_lastValue 11 = .ok (.bipush 33, 2) := by decide +kernel
theorem dX1_lastValue_13 : decode cX1_lastValue 13 = .ok (.lushr, 1) := by decide +kernel
theorem dX1_lastValue_14 : decode cX1_lastValue 14 = .ok (.l2i, 1) := by decide +kernel
theorem dX1_lastValue_15 : decode cX1_lastValue 15 = .ok (.ireturn, 1) := by decide +kernel
theorem dX1_settles_0 : decode cX1_settles 0 = .ok (.iconst 1, 1) := by decide +kernel
theorem dX1_settles_1 : decode cX1_settles 1 = .ok (.aload_n 0, 1) := by decide +kernel
theorem dX1_settles_2 : decode cX1_settles 2 = .ok (.getfield 20, 3) := by decide +kernel
theorem dX1_settles_5 : decode cX1_settles 5 = .ok (.iload_n 1, 1) := by decide +kernel
theorem dX1_settles_6 : decode cX1_settles 6 = .ok (.iaload, 1) := by decide +kernel
theorem dX1_settles_7 : decode cX1_settles 7 = .ok (.ishl, 1) := by decide +kernel
theorem dX1_settles_8 : decode cX1_settles 8 = .ok (.iconst 1, 1) := by decide +kernel
theorem dX1_settles_9 : decode cX1_settles 9 = .ok (.isub, 1) := by decide +kernel
theorem dX1_settles_10 : decode cX1_settles 10 = .ok (.istore_n 3, 1) := by decide +kernel
theorem dX1_settles_11 : decode cX1_settles 11 = .ok (.aload_n 0, 1) := by decide +kernel
theorem dX1_settles_12 : decode cX1_settles 12 = .ok (.getfield 20, 3) := by decide +kernel
theorem dX1_settles_15 : decode cX1_settles 15 = .ok (.iload_n 1, 1) := by decide +kernel
theorem dX1_settles_16 : decode cX1_settles 16 = .ok (.iaload, 1) := by decide +kernel
theorem dX1_settles_17 : decode cX1_settles 17 = .ok (.ifCond .eq 13, 3) := by decide +kernel
theorem dX1_settles_20 : decode cX1_settles 20 = .ok (.iload_n 2, 1) := by decide +kernel
theorem dX1_settles_21 : decode cX1_settles 21 = .ok (.iload_n 3, 1) := by decide +kernel
theorem dX1_settles_22 : decode cX1_settles 22 = .ok (.iand, 1) := by decide +kernel
theorem dX1_settles_23 : decode cX1_settles 23 = .ok (.ifCond .ne 7, 3) := by decide +kernel
theorem dX1_settles_26 : decode cX1_settles 26 = .ok (.iconst 1, 1) := by decide +kernel
theorem dX1_settles_27 : decode cX1_settles 27 = .ok (.goto 4, 3) := by decide +kernel
theorem dX1_settles_30 : decode cX1_settles 30 = .ok (.iconst 0, 1) := by decide +kernel
theorem dX1_settles_31 : decode cX1_settles 31 = .ok (.ireturn, 1) := by decide +kernel
theorem dX1_allLosses_0 : decode cX1_allLosses 0 = .ok (.iconst 0, 1) := by decide +kernel
theorem dX1_allLosses_1 : decode cX1_allLosses 1 = .ok (.istore_n 1, 1) := by decide +kernel
theorem dX1_allLosses_2 : decode cX1_allLosses 2 = .ok (.iconst 0, 1) := by decide +kernel
theorem dX1_allLosses_3 : decode cX1_allLosses 3 = .ok (.istore_n 2, 1) := by decide +kernel
theorem dX1_allLosses_4 : decode cX1_allLosses 4 = .ok (.iload_n 2, 1) := by decide +kernel
theorem dX1_allLosses_5 : decode cX1_allLosses 5 = .ok (.aload_n 0, 1) := by decide +kernel
theorem dX1_allLosses_6 : decode cX1_allLosses 6 = .ok (.getfield 7, 3) := by decide +kernel
theorem dX1_allLosses_9 : decode cX1_allLosses 9 = .ok (.if_icmp .ge 18, 3) := by decide +kernel
theorem dX1_allLosses_12 : decode cX1_allLosses 12 = .ok (.iload_n 1, 1) := by decide +kernel
theorem dX1_allLosses_13 : decode cX1_allLosses 13 = .ok (.aload_n 0, 1) := by decide +kernel
theorem dX1_allLosses_14 : decode cX1_allLosses 14 = .ok (.getfield 26, 3) := by decide +kernel
theorem dX1_allLosses_17 : decode cX1_allLosses 17 = .ok (.iload_n 2, 1) := by decide +kernel
theorem dX1_allLosses_18 : decode cX1_allLosses 18 = .ok (.iaload, 1) := by decide +kernel
theorem dX1_allLosses_19 : decode cX1_allLosses 19 = .ok (.iadd, 1) := by decide +kernel
theorem dX1_allLosses_20 : decode cX1_allLosses 20 = .ok (.istore_n 1, 1) := by decide +kernel
theorem dX1_allLosses_21 : decode cX1_allLosses 21 = .ok (.iinc 2 1, 3) := by decide +kernel
theorem dX1_allLosses_24 : decode cX1_allLosses 24 = .ok (.goto (-20), 3) := by decide +kernel
theorem dX1_allLosses_27 : decode cX1_allLosses 27 = .ok (.iload_n 1, 1) := by decide +kernel
theorem dX1_allLosses_28 : decode cX1_allLosses 28 = .ok (.ireturn, 1) := by decide +kernel
theorem dX1_stepsWithLosses_0 : decode cX1_stepsWithLosses 0 = .ok (.aload_n 0, 1) := by decide +kernel
theorem dX1_stepsWithLosses_1 : decode cX1_stepsWithLosses 1 = .ok (.getfield 13, 3) := by decide +kernel
theorem dX1_stepsWithLosses_4 : decode cX1_stepsWithLosses 4 = .ok (.iload_n 1, 1) := by decide +kernel
theorem dX1_stepsWithLosses_5 : decode cX1_stepsWithLosses 5 = .ok (.iaload, 1) := by decide +kernel
theorem dX1_stepsWithLosses_6 : decode cX1_stepsWithLosses 6 = .ok (.aload_n 0, 1) := by decide +kernel
theorem dX1_stepsWithLosses_7 : decode cX1_stepsWithLosses 7 = .ok (.getfield 26, 3) := by decide +kernel
theorem dX1_stepsWithLosses_10 : decode cX1_stepsWithLosses 10 = .ok (.iload_n 1, 1) := by decide +kernel
theorem dX1_stepsWithLosses_11 : decode cX1_stepsWithLosses 11 = .ok (.iaload, 1) := by decide +kernel
theorem dX1_stepsWithLosses_12 : decode cX1_stepsWithLosses 12 = .ok (.aload_n 0, 1) := by decide +kernel
theorem dX1_stepsWithLosses_13 : decode cX1_stepsWithLosses 13 = .ok (.getfield 23, 3) := by decide +kernel
theorem dX1_stepsWithLosses_16 : decode cX1_stepsWithLosses 16 = .ok (.iload_n 1, 1) := by decide +kernel
theorem dX1_stepsWithLosses_17 : decode cX1_stepsWithLosses 17 = .ok (.iaload, 1) := by decide +kernel
theorem dX1_stepsWithLosses_18 : decode cX1_stepsWithLosses 18 = .ok (.aload_n 0, 1) := by decide +kernel
theorem dX1_stepsWithLosses_19 : decode cX1_stepsWithLosses 19 = .ok (.getfield 13, 3) := by decide +kernel
theorem dX1_stepsWithLosses_22 : decode cX1_stepsWithLosses 22 = .ok (.iload_n 1, 1) := by decide +kernel
theorem dX1_stepsWithLosses_23 : decode cX1_stepsWithLosses 23 = .ok (.iaload, 1) := by decide +kernel
theorem dX1_stepsWithLosses_24 : decode cX1_stepsWithLosses 24 = .ok (.invokestatic 45, 3) := by decide +kernel
theorem dX1_stepsWithLosses_27 : decode cX1_stepsWithLosses 27 = .ok (.imul, 1) := by decide +kernel
theorem dX1_stepsWithLosses_28 : decode cX1_stepsWithLosses 28 = .ok (.iadd, 1) := by decide +kernel
theorem dX1_stepsWithLosses_29 : decode cX1_stepsWithLosses 29 = .ok (.ireturn, 1) := by decide +kernel
theorem dX2_init_0 : decode cX2_init 0 = .ok (.aload_n 0, 1) := by decide +kernel
theorem dX2_init_1 : decode cX2_init 1 = .ok (.invokespecial 3, 3) := by decide +kernel
theorem dX2_init_4 : decode cX2_init 4 = .ok (.aload_n 0, 1) := by decide +kernel
theorem dX2_init_5 : decode cX2_init 5 = .ok (.bipush 24, 2) := by decide +kernel
theorem dX2_init_7 : decode cX2_init 7 = .ok (.newarray .int, 2) := by decide +kernel
theorem dX2_init_9 : decode cX2_init 9 = .ok (.putfield 9, 3) := by decide +kernel
theorem dX2_init_12 : decode cX2_init 12 = .ok (.aload_n 0, 1) := by decide +kernel
theorem dX2_init_13 : decode cX2_init 13 = .ok (.bipush 24, 2) := by decide +kernel
theorem dX2_init_15 : decode cX2_init 15 = .ok (.newarray .int, 2) := by decide +kernel
theorem dX2_init_17 : decode cX2_init 17 = .ok (.putfield 15, 3) := by decide +kernel
theorem dX2_init_20 : decode cX2_init 20 = .ok (.aload_n 0, 1) := by decide +kernel
theorem dX2_init_21 : decode cX2_init 21 = .ok (.iconst 0, 1) := by decide +kernel
theorem dX2_init_22 : decode cX2_init 22 = .ok (.putfield 18, 3) := by decide +kernel
theorem dX2_init_25 : decode cX2_init 25 = .ok (.return_, 1) := by decide +kernel
theorem dX2_append_0 : decode cX2_append 0 = .ok (.aload_n 0, 1) := by decide +kernel
theorem dX2_append_1 : decode cX2_append 1 = .ok (.getfield 18, 3) := by decide +kernel
theorem dX2_append_4 : decode cX2_append 4 = .ok (.istore_n 3, 1) := by decide +kernel
theorem dX2_append_5 : decode cX2_append 5 = .ok (.aload_n 0, 1) := by decide +kernel
theorem dX2_append_6 : decode cX2_append 6 = .ok (.getfield 9, 3) := by decide +kernel
theorem dX2_append_9 : decode cX2_append 9 = .ok (.iload_n 3, 1) := by decide +kernel
theorem dX2_append_10 : decode cX2_append 10 = .ok (.iload_n 1, 1) := by decide +kernel
theorem dX2_append_11 : decode cX2_append 11 = .ok (.iastore, 1) := by decide +kernel
theorem dX2_append_12 : decode cX2_append 12 = .ok (.aload_n 0, 1) := by decide +kernel
theorem dX2_append_13 : decode cX2_append 13 = .ok (.getfield 15, 3) := by decide +kernel
theorem dX2_append_16 : decode cX2_append 16 = .ok (.iload_n 3, 1) := by decide +kernel
theorem dX2_append_17 : decode cX2_append 17 = .ok (.iload_n 2, 1) := by decide +kernel
theorem dX2_append_18 : decode cX2_append 18 = .ok (.iastore, 1) := by decide +kernel
theorem dX2_append_19 : decode cX2_append 19 = .ok (.aload_n 0, 1) := by decide +kernel
theorem dX2_append_20 : decode cX2_append 20 = .ok (.iload_n 3, 1) := by decide +kernel
theorem dX2_append_21 : decode cX2_append 21 = .ok (.iconst 1, 1) := by decide +kernel
theorem dX2_append_22 : decode cX2_append 22 = .ok (.iadd, 1) := by decide +kernel
theorem dX2_append_23 : decode cX2_append 23 = .ok (.putfield 18, 3) := by decide +kernel
theorem dX2_append_26 : decode cX2_append 26 = .ok (.iload_n 3, 1) := by decide +kernel
theorem dX2_append_27 : decode cX2_append 27 = .ok (.ireturn, 1) := by decide +kernel
theorem dX3_init_0 : decode cX3_init 0 = .ok (.aload_n 0, 1) := by decide +kernel
theorem dX3_init_1 : decode cX3_init 1 = .ok (.invokespecial 3, 3) := by decide +kernel
theorem dX3_init_4 : decode cX3_init 4 = .ok (.aload_n 0, 1) := by decide +kernel
theorem dX3_init_5 : decode cX3_init 5 = .ok (.iload_n 1, 1) := by decide +kernel
theorem dX3_init_6 : decode cX3_init 6 = .ok (.newarray .int, 2) := by decide +kernel
theorem dX3_init_8 : decode cX3_init 8 = .ok (.putfield 9, 3) := by decide +kernel
theorem dX3_init_11 : decode cX3_init 11 = .ok (.aload_n 0, 1) := by decide +kernel
theorem dX3_init_12 : decode cX3_init 12 = .ok (.iload_n 1, 1) := by decide +kernel
theorem dX3_init_13 : decode cX3_init 13 = .ok (.newarray .int, 2) := by decide +kernel
theorem dX3_init_15 : decode cX3_init 15 = .ok (.putfield 15, 3) := by decide +kernel
theorem dX3_init_18 : decode cX3_init 18 = .ok (.aload_n 0, 1) := by decide +kernel
theorem dX3_init_19 : decode cX3_init 19 = .ok (.bipush 24, 2) := by decide +kernel
theorem dX3_init_21 : decode cX3_init 21 = .ok (.newarray .int, 2) := by decide +kernel
theorem dX3_init_23 : decode cX3_init 23 = .ok (.putfield 18, 3) := by decide +kernel
theorem dX3_init_26 : decode cX3_init 26 = .ok (.return_, 1) := by decide +kernel
theorem dX3_doAll_0 : decode cX3_doAll 0 = .ok (.aload_n 0, 1) := by decide +kernel
theorem dX3_doAll_1 : decode cX3_doAll 1 = .ok (.iconst 1, 1) := by decide +kernel
theorem dX3_doAll_2 : decode cX3_doAll 2 = .ok (.putfield 21, 3) := by decide +kernel
theorem dX3_doAll_5 : decode cX3_doAll 5 = .ok (.aload_n 0, 1) := by decide +kernel
theorem dX3_doAll_6 : decode cX3_doAll 6 = .ok (.iconst 0, 1) := by decide +kernel
theorem dX3_doAll_7 : decode cX3_doAll 7 = .ok (.putfield 25, 3) := by decide +kernel
theorem dX3_doAll_10 : decode cX3_doAll 10 = .ok (.iconst 0, 1) := by decide +kernel
theorem dX3_doAll_11 : decode cX3_doAll 11 = .ok (.istore_n 2, 1) := by decide +kernel
theorem dX3_doAll_12 : decode cX3_doAll 12 = .ok (.iload_n 2, 1) := by decide +kernel
theorem dX3_doAll_13 : decode cX3_doAll 13 = .ok (.aload_n 1, 1) := by decide +kernel
theorem dX3_doAll_14 : decode cX3_doAll 14 = .ok (.getfield 29, 3) := by decide +kernel
theorem dX3_doAll_17 : decode cX3_doAll 17 = .ok (.if_icmp .ge 48, 3) := by decide +kernel
theorem dX3_doAll_20 : decode cX3_doAll 20 = .ok (.aload_n 0, 1) := by decide +kernel
theorem dX3_doAll_21 : decode cX3_doAll 21 = .ok (.getfield 9, 3) := by decide +kernel
theorem dX3_doAll_24 : decode cX3_doAll 24 = .ok (.iload_n 2, 1) := by decide +kernel
theorem dX3_doAll_25 : decode cX3_doAll 25 = .ok (.aload_n 1, 1) := by decide +kernel
theorem dX3_doAll_26 : decode cX3_doAll 26 = .ok (.iload_n 2, 1) := by decide +kernel
theorem dX3_doAll_27 : decode cX3_doAll 27 = .ok (.invokevirtual 34, 3) := by decide +kernel
theorem dX3_doAll_30 : decode cX3_doAll 30 = .ok (.iastore, 1) := by decide +kernel
theorem dX3_doAll_31 : decode cX3_doAll 31 = .ok (.aload_n 0, 1) := by decide +kernel
theorem dX3_doAll_32 : decode cX3_doAll 32 = .ok (.getfield 15, 3) := by decide +kernel
theorem dX3_doAll_35 : decode cX3_doAll 35 = .ok (.iload_n 2, 1) := by decide +kernel
theorem dX3_doAll_36 : decode cX3_doAll 36 = .ok (.aload_n 1, 1) := by decide +kernel
theorem dX3_doAll_37 : decode cX3_doAll 37 = .ok (.getfield 38, 3) := by decide +kernel
theorem dX3_doAll_40 : decode cX3_doAll 40 = .ok (.iload_n 2, 1) := by decide +kernel
theorem dX3_doAll_41 : decode cX3_doAll 41 = .ok (.iaload, 1) := by decide +kernel
theorem dX3_doAll_42 : decode cX3_doAll 42 = .ok (.iconst 1, 1) := by decide +kernel
theorem dX3_doAll_43 : decode cX3_doAll 43 = .ok (.iadd, 1) := by decide +kernel
theorem dX3_doAll_44 : decode cX3_doAll 44 = .ok (.iastore, 1) := by decide +kernel
theorem dX3_doAll_45 : decode cX3_doAll 45 = .ok (.aload_n 0, 1) := by decide +kernel
theorem dX3_doAll_46 : decode cX3_doAll 46 = .ok (.dup, 1) := by decide +kernel
theorem dX3_doAll_47 : decode cX3_doAll 47 = .ok (.getfield 25, 3) := by decide +kernel
theorem dX3_doAll_50 : decode cX3_doAll 50 = .ok (.aload_n 1, 1) := by decide +kernel
theorem dX3_doAll_51 : decode cX3_doAll 51 = .ok (.iload_n 2, 1) := by decide +kernel
theorem dX3_doAll_52 : decode cX3_doAll 52 = .ok (.invokevirtual 41, 3) := by decide +kernel
theorem dX3_doAll_55 : decode cX3_doAll 55 = .ok (.iadd, 1) := by decide +kernel
theorem dX3_doAll_56 : decode cX3_doAll 56 = .ok (.putfield 25, 3) := by decide +kernel
theorem dX3_doAll_59 : decode cX3_doAll 59 = .ok (.iinc 2 1, 3) := by decide +kernel
theorem dX3_doAll_62 : decode cX3_doAll 62 = .ok (.goto (-50), 3) := by decide +kernel
theorem dX3_doAll_65 : decode cX3_doAll 65 = .ok (.return_, 1) := by decide +kernel
theorem dX3_joinAll_0 : decode cX3_joinAll 0 = .ok (.aload_n 0, 1) := by decide +kernel
theorem dX3_joinAll_1 : decode cX3_joinAll 1 = .ok (.lconst 0, 1) := by decide +kernel
theorem dX3_joinAll_2 : decode cX3_joinAll 2 = .ok (.putfield 44, 3) := by decide +kernel
theorem dX3_joinAll_5 : decode cX3_joinAll 5 = .ok (.aload_n 0, 1) := by decide +kernel
theorem dX3_joinAll_6 : decode cX3_joinAll 6 = .ok (.iconst 0, 1) := by decide +kernel
theorem dX3_joinAll_7 : decode cX3_joinAll 7 = .ok (.putfield 48, 3) := by decide +kernel
theorem dX3_joinAll_10 : decode cX3_joinAll 10 = .ok (.aload_n 0, 1) := by decide +kernel
theorem dX3_joinAll_11 : decode cX3_joinAll 11 = .ok (.getfield 18, 3) := by decide +kernel
theorem dX3_joinAll_14 : decode cX3_joinAll 14 = .ok (.iconst (-1), 1) := by decide +kernel
theorem dX3_joinAll_15 : decode cX3_joinAll 15 = .ok (.invokestatic 51, 3) := by decide +kernel
theorem dX3_joinAll_18 : decode cX3_joinAll 18 = .ok (.iconst 0, 1) := by decide +kernel
theorem dX3_joinAll_19 : decode cX3_joinAll 19 = .ok (.istore 4, 2) := by decide +kernel
theorem dX3_joinAll_21 : decode cX3_joinAll 21 = .ok (.iload 4, 2) := by decide +kernel
theorem dX3_joinAll_23 : decode cX3_joinAll 23 = .ok (.aload_n 1, 1) := by decide +kernel
theorem dX3_joinAll_24 : decode cX3_joinAll 24 = .ok (.getfield 29, 3) := by decide +kernel
theorem dX3_joinAll_27 : decode cX3_joinAll 27 = .ok (.if_icmp .ge 74, 3) := by decide +kernel
theorem dX3_joinAll_30 : decode cX3_joinAll 30 = .ok (.iload 4, 2) := by decide +kernel
theorem dX3_joinAll_32 : decode cX3_joinAll 32 = .ok (.iload_n 3, 1) := by decide +kernel
theorem dX3_joinAll_33 : decode cX3_joinAll 33 = .ok (.if_icmp .ne 5, 3) := by decide +kernel
theorem dX3_joinAll_36 : decode cX3_joinAll 36 = .ok (.iconst (-1), 1) := by decide +kernel
theorem dX3_joinAll_37 : decode cX3_joinAll 37 = .ok (.ireturn, 1) := by decide +kernel
theorem dX3_joinAll_38 : decode cX3_joinAll 38 = .ok (.aload_n 0, 1) := by decide +kernel
theorem dX3_joinAll_39 : decode cX3_joinAll 39 = .ok (.aload_n 2, 1) := by decide +kernel
theorem dX3_joinAll_40 : decode cX3_joinAll 40 = .ok (.iload 4, 2) := by decide +kernel
theorem dX3_joinAll_42 : decode cX3_joinAll 42 = .ok (.invokevirtual 57, 3) := by decide +kernel
theorem dX3_joinAll_45 : decode cX3_joinAll 45 = .ok (.aload_n 0, 1) := by decide +kernel
theorem dX3_joinAll_46 : decode cX3_joinAll 46 = .ok (.ldc2_w 61, 3) := by decide +kernel
theorem dX3_joinAll_49 : decode cX3_joinAll 49 = .ok (.aload_n 0, 1) := by decide +kernel
theorem dX3_joinAll_50 : decode cX3_joinAll 50 = .ok (.getfield 44, 3) := by decide +kernel
theorem dX3_joinAll_53 : decode cX3_joinAll 53 = .ok (.lmul, 1) := by decide +kernel
theorem dX3_joinAll_54 : decode cX3_joinAll 54 = .ok (.aload_n 0, 1) := by decide +kernel
theorem dX3_joinAll_55 : decode cX3_joinAll 55 = .ok (.getfield 9, 3) := by decide +kernel
theorem dX3_joinAll_58 : decode cX3_joinAll 58 = .ok (.iload 4, 2) := by decide +kernel
theorem dX3_joinAll_60 : decode cX3_joinAll 60 = .ok (.iaload, 1) := by decide +kernel
theorem dX3_joinAll_61 : decode cX3_joinAll 61 = .ok (.i2l, 1) := by decide +kernel
theorem dX3_joinAll_62 : decode cX3_joinAll 62 = .ok (.ladd, 1) := by decide +kernel
theorem dX3_joinAll_63 : decode cX3_joinAll 63 = .ok (.putfield 44, 3) := by decide +kernel
theorem dX3_joinAll_66 : decode cX3_joinAll 66 = .ok (.aload_n 0, 1) := by decide +kernel
theorem dX3_joinAll_67 : decode cX3_joinAll 67 = .ok (.dup, 1) := by decide +kernel
theorem dX3_joinAll_68 : decode cX3_joinAll 68 = .ok (.getfield 48, 3) := by decide +kernel
theorem dX3_joinAll_71 : decode cX3_joinAll 71 = .ok (.iconst 1, 1) := by decide +kernel
theorem dX3_joinAll_72 : decode cX3_joinAll 72 = .ok (.iadd, 1) := by decide +kernel
theorem dX3_joinAll_73 : decode cX3_joinAll 73 = .ok (.putfield 48, 3) := by decide +kernel
theorem dX3_joinAll_76 : decode cX3_joinAll 76 = .ok (.aload_n 1, 1) := by decide +kernel
theorem dX3_joinAll_77 : decode cX3_joinAll 77 = .ok (.iload 4, 2) := by decide +kernel
theorem dX3_joinAll_79 : decode cX3_joinAll 79 = .ok (.aload_n 0, 1) := by decide +kernel
theorem dX3_joinAll_80 : decode cX3_joinAll 80 = .ok (.getfield 9, 3) := by decide +kernel
theorem dX3_joinAll_83 : decode cX3_joinAll 83 = .ok (.iload 4, 2) := by decide +kernel
theorem dX3_joinAll_85 : decode cX3_joinAll 85 = .ok (.iaload, 1) := by decide +kernel
theorem dX3_joinAll_86 : decode cX3_joinAll 86 = .ok (.invokevirtual 63, 3) := by decide +kernel
theorem dX3_joinAll_89 : decode cX3_joinAll 89 = .ok (.ifCond .eq 6, 3) := by decide +kernel
theorem dX3_joinAll_92 : decode cX3_joinAll 92 = .ok (.iload 4, 2) := by decide +kernel
theorem dX3_joinAll_94 : decode cX3_joinAll 94 = .ok (.ireturn, 1) := by decide +kernel
theorem dX3_joinAll_95 : decode cX3_joinAll 95 = .ok (.iinc 4 1, 3) := by decide +kernel
theorem dX3_joinAll_98 : decode cX3_joinAll 98 = .ok (.goto (-77), 3) := by decide +kernel
theorem dX3_joinAll_101 : decode cX3_joinAll 101 = .ok (.aload_n 0, 1) := by decide +kernel
theorem dX3_joinAll_102 : decode cX3_joinAll 102 = .ok (.aload_n 2, 1) := by decide +kernel
theorem dX3_joinAll_103 : decode cX3_joinAll 103 = .ok (.aload_n 1, 1) := by decide +kernel
theorem dX3_joinAll_104 : decode cX3_joinAll 104 = .ok (.getfield 29, 3) := by decide +kernel
theorem dX3_joinAll_107 : decode cX3_joinAll 107 = .ok (.invokevirtual 57, 3) := by decide +kernel
theorem dX3_joinAll_110 : decode cX3_joinAll 110 = .ok (.iconst (-1), 1) := by decide +kernel
theorem dX3_joinAll_111 : decode cX3_joinAll 111 = .ok (.ireturn, 1) := by decide +kernel
theorem dX3_letIn_0 : decode cX3_letIn 0 = .ok (.iconst 0, 1) := by decide +kernel
theorem dX3_letIn_1 : decode cX3_letIn 1 = .ok (.istore_n 3, 1) := by decide +kernel
theorem dX3_letIn_2 : decode cX3_letIn 2 = .ok (.iload_n 3, 1) := by decide +kernel
theorem dX3_letIn_3 : decode cX3_letIn 3 = .ok (.aload_n 1, 1) := by decide +kernel
theorem dX3_letIn_4 : decode cX3_letIn 4 = .ok (.getfield 67, 3) := by decide +kernel
theorem dX3_letIn_7 : decode cX3_letIn 7 = .ok (.if_icmp .ge 46, 3) := by decide +kernel
theorem dX3_letIn_10 : decode cX3_letIn 10 = .ok (.aload_n 1, 1) := by decide +kernel
theorem dX3_letIn_11 : decode cX3_letIn 11 = .ok (.getfield 70, 3) := by decide +kernel
theorem dX3_letIn_14 : decode cX3_letIn 14 = .ok (.iload_n 3, 1) := by decide +kernel
theorem dX3_letIn_15 : decode cX3_letIn 15 = .ok (.iaload, 1) := by decide +kernel
theorem dX3_letIn_16 : decode cX3_letIn 16 = .ok (.iload_n 2, 1) := by decide +kernel
theorem dX3_letIn_17 : decode cX3_letIn 17 = .ok (.if_icmp .ne 30, 3) := by decide +kernel
theorem dX3_letIn_20 : decode cX3_letIn 20 = .ok (.aload_n 0, 1) := by decide +kernel
theorem dX3_letIn_21 : decode cX3_letIn 21 = .ok (.ldc2_w 73, 3) := by decide +kernel
theorem dX3_letIn_24 : decode cX3_letIn 24 = .ok (.aload_n 0, 1) := by decide +kernel
theorem dX3_letIn_25 : decode cX3_letIn 25 = .ok (.getfield 44, 3) := by decide +kernel
theorem dX3_letIn_28 : decode cX3_letIn 28 = .ok (.lmul, 1) := by decide +kernel
theorem dX3_letIn_29 : decode cX3_letIn 29 = .ok (.aload_n 1, 1) := by decide +kernel
theorem dX3_letIn_30 : decode cX3_letIn 30 = .ok (.getfield 75, 3) := by decide +kernel
theorem dX3_letIn_33 : decode cX3_letIn 33 = .ok (.iload_n 3, 1) := by decide +kernel
theorem dX3_letIn_34 : decode cX3_letIn 34 = .ok (.iaload, 1) := by decide +kernel
theorem dX3_letIn_35 : decode cX3_letIn 35 = .ok (.i2l, 1) := by decide +kernel
theorem dX3_letIn_36 : decode cX3_letIn 36 = .ok (.ladd, 1) := by decide +kernel
theorem dX3_letIn_37 : decode cX3_letIn 37 = .ok (.putfield 44, 3) := by decide +kernel
theorem dX3_letIn_40 : decode cX3_letIn 40 = .ok (.aload_n 0, 1) := by decide +kernel
theorem dX3_letIn_41 : decode cX3_letIn 41 = .ok (.getfield 18, 3) := by decide +kernel
theorem dX3_letIn_44 : decode cX3_letIn 44 = .ok (.iload_n 3, 1) := by decide +kernel
theorem dX3_letIn_45 : decode cX3_letIn 45 = .ok (.iload_n 2, 1) := by decide +kernel
theorem dX3_letIn_46 : decode cX3_letIn 46 = .ok (.iastore, 1) := by decide +kernel
theorem dX3_letIn_47 : decode cX3_letIn 47 = .ok (.iinc 3 1, 3) := by decide +kernel
theorem dX3_letIn_50 : decode cX3_letIn 50 = .ok (.goto (-48), 3) := by decide +kernel
theorem dX3_letIn_53 : decode cX3_letIn 53 = .ok (.return_, 1) := by decide +kernel
theorem dJ0_fill_0 : decode cJ0_fill 0 = .ok (.iconst 0, 1) := by decide +kernel
theorem dJ0_fill_1 : decode cJ0_fill 1 = .ok (.istore_n 2, 1) := by decide +kernel
theorem dJ0_fill_2 : decode cJ0_fill 2 = .ok (.aload_n 0, 1) := by decide +kernel
theorem dJ0_fill_3 : decode cJ0_fill 3 = .ok (.arraylength, 1) := by decide +kernel
theorem dJ0_fill_4 : decode cJ0_fill 4 = .ok (.istore_n 3, 1) := by decide +kernel
theorem dJ0_fill_5 : decode cJ0_fill 5 = .ok (.iload_n 2, 1) := by decide +kernel
theorem dJ0_fill_6 : decode cJ0_fill 6 = .ok (.iload_n 3, 1) := by decide +kernel
theorem dJ0_fill_7 : decode cJ0_fill 7 = .ok (.if_icmp .ge 13, 3) := by decide +kernel
theorem dJ0_fill_10 : decode cJ0_fill 10 = .ok (.aload_n 0, 1) := by decide +kernel
theorem dJ0_fill_11 : decode cJ0_fill 11 = .ok (.iload_n 2, 1) := by decide +kernel
theorem dJ0_fill_12 : decode cJ0_fill 12 = .ok (.iload_n 1, 1) := by decide +kernel
theorem dJ0_fill_13 : decode cJ0_fill 13 = .ok (.iastore, 1) := by decide +kernel
theorem dJ0_fill_14 : decode cJ0_fill 14 = .ok (.iinc 2 1, 3) := by decide +kernel
theorem dJ0_fill_17 : decode cJ0_fill 17 = .ok (.goto (-12), 3) := by decide +kernel
theorem dJ0_fill_20 : decode cJ0_fill 20 = .ok (.return_, 1) := by decide +kernel
end
section
/-! ===== what a state of the class is; what its methods work out ===== -/
abbrev xS : Type := Nat × (Nat → Int32) × (Nat → Int32) × (Nat → Int32) × (Nat → Int32) × (Nat → Int32) × (Nat → Int32) × (Nat → Int32) × (Nat → Int32) × (Nat → Int32) × (Nat → Int32) × Int32 × Int32 × Int32 × Nat × Int32 × Int64 × Int32 × Int32 × Int32
/-- the class's fourteen cells: the object, its three parts, their rows -/
abbrev wX (c0 : ClassId) (a : Nat → Nat) (u : xS) : va_W := match u with
  | (n, wk, sd, bt, lt, lo, rk, ad, vl, bg, cm, sp, gd, rf, ct, rd, sm, js, sn, wl) => [
    (a 0, .inr (0, [.ref (a 1), .ref (a 2), .ref (a 3), .int sp, .int gd, .int rf])),
    (a 1, .inr (1, [.int (nI n), .ref (a 4), .ref (a 5), .ref (a 6), .ref (a 7), .ref (a 8)])),
    (a 2, .inr (2, [.ref (a 9), .ref (a 10), .int (nI ct)])),
    (a 3, .inr (3, [.ref (a 11), .ref (a 12), .ref (a 13), .int rd, .long sm, .int js, .int sn, .int wl])),
    (a 4, .inl (c0, n, .inl wk)),
    (a 5, .inl (c0, n, .inl sd)),
    (a 6, .inl (c0, n, .inl bt)),
    (a 7, .inl (c0, n, .inl lt)),
    (a 8, .inl (c0, n, .inl lo)),
    (a 9, .inl (c0, 24, .inl rk)),
    (a 10, .inl (c0, 24, .inl ad)),
    (a 11, .inl (c0, n, .inl vl)),
    (a 12, .inl (c0, n, .inl bg)),
    (a 13, .inl (c0, 24, .inl cm))]
/-- a share's x behind i steps -/
def chx (sd k : Int32) : Nat → Int64
  | 0 => 2654435761 * sd.toInt64 + k.toInt64
  | i + 1 => 6364136223846793005 * chx sd k i + 1442695040888963407
def vl9 (x : Int64) : Int32 := ((x.toUInt64 >>> ((33 : Int32).toInt64.toUInt64 &&& Int64.toUInt64 63)).toInt64).toInt32
def lastV (wk sd : Nat → Int32) (k : Int32) : Int32 := vl9 (chx (sd k.toNatClampNeg) k (wk k.toNatClampNeg).toNatClampNeg)
def stl (b v : Int32) : Int32 := if b = 0 then 0 else if v &&& ((1 <<< (b &&& 31)) - 1) = 0 then 1 else 0
def sumL (f : Nat → Int32) : Nat → Int32
  | 0 => 0
  | i + 1 => sumL f i + f i
def swl (wk lt lo : Nat → Int32) (k : Int32) : Int32 := wk k.toNatClampNeg + (lo k.toNatClampNeg * (if wk k.toNatClampNeg < lt k.toNatClampNeg then wk k.toNatClampNeg else lt k.toNatClampNeg))
def fil (f g : Nat → Int32) : Nat → Nat → Int32
  | 0 => g
  | i + 1 => upd (fil f g i) i (f i)
/-- the acts of rank r let in, the first i of them looked at -/
def linS (rk ad : Nat → Int32) (r : Int32) (s0 : Int64) : Nat → Int64
  | 0 => s0
  | i + 1 => if rk i = r then 31 * linS rk ad r s0 i + (ad i).toInt64 else linS rk ad r s0 i
def linC (rk : Nat → Int32) (r : Int32) (m0 : Nat → Int32) : Nat → Nat → Int32
  | 0 => m0
  | i + 1 => if rk i = r then upd (linC rk r m0 i) i r else linC rk r m0 i
/-- the joining of the first k shares -/
def jnS (rk ad vl : Nat → Int32) (ct : Nat) : Nat → Int64
  | 0 => 0
  | k + 1 => 1000003 * linS rk ad (nI k) (jnS rk ad vl ct k) ct + (vl k).toInt64
def jnC (rk : Nat → Int32) (ct : Nat) (m0 : Nat → Int32) : Nat → Nat → Int32
  | 0 => m0
  | k + 1 => linC rk (nI k) (jnC rk ct m0 k) ct
def jnE (bt rk ad vl m0 : Nat → Int32) (ct n : Nat) (z : Int32) : Nat → Nat → Int32 × Int64 × (Nat → Int32) × Nat
  | 0, k => (-1, linS rk ad (nI n) (jnS rk ad vl ct k) ct, linC rk (nI n) (jnC rk ct m0 k) ct, k)
  | f + 1, k => if nI k = z then (-1, jnS rk ad vl ct k, jnC rk ct m0 k, k) else if stl (bt k) (vl k) = 0 then jnE bt rk ad vl m0 ct n z f (k + 1) else (nI k, jnS rk ad vl ct (k + 1), jnC rk ct m0 (k + 1), k + 1)
/-! the face: (0, the answer, the state behind it), or (1 or 2, 0, the same state) where it throws -/
def f_share (u : xS) (k w x b : Int32) : Int32 × Int64 × xS := match u with
  | (n, wk, sd, bt, lt, lo, rk, ad, vl, bg, cm, sp, gd, rf, ct, rd, sm, js, sn, wl) => if k < 0 then (1, 0, u) else if k < nI n then (if w < 1 then (2, 0, u) else if w ≤ 30 then (if b < 0 then (2, 0, u) else if b ≤ 8 then (0, (wk k.toNatClampNeg).toInt64, (n, upd wk k.toNatClampNeg w, upd sd k.toNatClampNeg x, upd bt k.toNatClampNeg b, lt, lo, rk, ad, vl, bg, cm, sp, gd, rf, ct, rd, sm, js, sn, wl)) else (2, 0, u)) else (2, 0, u)) else (1, 0, u)
def f_fails (u : xS) (k w x : Int32) : Int32 × Int64 × xS := match u with
  | (n, wk, sd, bt, lt, lo, rk, ad, vl, bg, cm, sp, gd, rf, ct, rd, sm, js, sn, wl) => if k < 0 then (1, 0, u) else if k < nI n then (if w < 1 then (2, 0, u) else if w ≤ 30 then (if x < 0 then (2, 0, u) else if x ≤ 4 then (0, (lo k.toNatClampNeg).toInt64, (n, wk, sd, bt, upd lt k.toNatClampNeg w, upd lo k.toNatClampNeg x, rk, ad, vl, bg, cm, sp, gd, rf, ct, rd, sm, js, sn, wl)) else (2, 0, u)) else (2, 0, u)) else (1, 0, u)
def f_act (u : xS) (k v : Int32) : Int32 × Int64 × xS := match u with
  | (n, wk, sd, bt, lt, lo, rk, ad, vl, bg, cm, sp, gd, rf, ct, rd, sm, js, sn, wl) => if k < 0 then (1, 0, u) else if k ≤ nI n then (if nI ct < 24 then (0, (nI ct).toInt64, (n, wk, sd, bt, lt, lo, upd rk ct k, upd ad ct v, vl, bg, cm, sp, gd, rf, ct + 1, rd, sm, js, sn, wl)) else (2, 0, u)) else (1, 0, u)
def f_stop (u : xS) (k : Int32) : Int32 × Int64 × xS := match u with
  | (n, wk, sd, bt, lt, lo, rk, ad, vl, bg, cm, sp, gd, rf, ct, rd, sm, js, sn, wl) => if k = -1 then (0, sp.toInt64, (n, wk, sd, bt, lt, lo, rk, ad, vl, bg, cm, k, gd, rf, ct, rd, sm, js, sn, wl)) else if k < 0 then (1, 0, u) else if k < nI n then (0, sp.toInt64, (n, wk, sd, bt, lt, lo, rk, ad, vl, bg, cm, k, gd, rf, ct, rd, sm, js, sn, wl)) else (1, 0, u)
def f_run (u : xS) (w _y : Int32) : Int32 × Int64 × xS := match u with
  | (n, wk, sd, bt, lt, lo, rk, ad, vl, bg, cm, sp, gd, rf, ct, rd, sm, js, sn, wl) => if w < 1 then (1, 0, u) else if w ≤ 6 then (if 1 ≤ w - sumL lo n then (match jnE bt rk ad (fil (fun j => lastV wk sd (nI j)) vl n) (fil (fun _ => (-1)) cm 24) ct n sp n 0 with
      | (r, s9, c9, j9) => (0, r.toInt64, (n, wk, sd, bt, lt, lo, rk, ad, fil (fun j => lastV wk sd (nI j)) vl n, fil (fun j => lo j + 1) bg n, c9, sp, gd + 1, rf, ct, 1, s9, nI j9, sumL (fun j => swl wk lt lo (nI j)) n, w - sumL lo n)))
    else (0, (-2 : Int32).toInt64, (n, wk, sd, bt, lt, lo, rk, ad, vl, bg, cm, sp, gd, rf + 1, ct, rd, sm, js, sn, wl))) else (1, 0, u)
def f_joined (u : xS) : Int32 × Int64 × xS := match u with
  | (_, _, _, _, _, _, _, _, _, _, _, _, _, _, _, rd, sm, _, _, _) => if rd = 0 then (1, 0, u) else (0, sm, u)
def f_many (u : xS) : Int32 × Int64 × xS := match u with
  | (_, _, _, _, _, _, _, _, _, _, _, _, _, _, _, rd, _, js, _, _) => if rd = 0 then (1, 0, u) else (0, js.toInt64, u)
def f_value (u : xS) (k : Int32) : Int32 × Int64 × xS := match u with
  | (n, _, _, _, _, _, _, _, vl, _, _, _, _, _, _, rd, _, _, _, _) => if k < 0 then (1, 0, u) else if k < nI n then (if rd = 0 then (2, 0, u) else (0, (vl k.toNatClampNeg).toInt64, u)) else (1, 0, u)
def f_chain (u : xS) (k w : Int32) : Int32 × Int64 × xS := match u with
  | (n, wk, sd, _, _, _, _, _, _, _, _, _, _, _, _, _, _, _, _, _) => if k < 0 then (1, 0, u) else if k < nI n then (if w < 0 then (1, 0, u) else if w ≤ wk k.toNatClampNeg then (0, chx (sd k.toNatClampNeg) k w.toNatClampNeg, u) else (1, 0, u)) else (1, 0, u)
def f_came (u : xS) (k : Int32) : Int32 × Int64 × xS := match u with
  | (_, _, _, _, _, _, _, _, _, _, cm, _, _, _, ct, rd, _, _, _, _) => if k < 0 then (1, 0, u) else if k < nI ct then (if rd = 0 then (2, 0, u) else (0, (cm k.toNatClampNeg).toInt64, u)) else (1, 0, u)
def f_begun (u : xS) (k : Int32) : Int32 × Int64 × xS := match u with
  | (n, _, _, _, _, _, _, _, _, bg, _, _, _, _, _, rd, _, _, _, _) => if k < 0 then (1, 0, u) else if k < nI n then (if rd = 0 then (2, 0, u) else (0, (bg k.toNatClampNeg).toInt64, u)) else (1, 0, u)
def f_steps (u : xS) (k : Int32) : Int32 × Int64 × xS := match u with
  | (_, _, _, _, _, _, _, _, _, _, _, _, _, _, _, rd, _, _, sn, wl) => if k < 0 then (1, 0, u) else if k ≤ 1 then (if rd = 0 then (2, 0, u) else if k = 0 then (0, sn.toInt64, u) else (0, wl.toInt64, u)) else (1, 0, u)
def f_count (u : xS) (k : Int32) : Int32 × Int64 × xS := match u with
  | (n, _, _, _, _, _, _, _, _, _, _, _, gd, rf, ct, _, _, _, _, _) => if k = 0 then (0, (nI n).toInt64, u) else if k = 1 then (0, (nI ct).toInt64, u) else if k = 2 then (0, gd.toInt64, u) else if k = 3 then (0, rf.toInt64, u) else (1, 0, u)
/-! ===== words that the contracts take as given: links across the nest, texts, statics of Throwable ===== -/
def evS : List (String × Nat × String) := [("DrawShares", 130, "there is no such step"), ("DrawShares", 136, "there is no such act"), ("DrawShares", 144, "what is not 0 or 1"), ("DrawShares", 149, "what is not 0 .. 3"), ("DrawShares", 151, "there is no such share"), ("DrawShares", 157, "there was no run that was not refused"), ("DrawShares", 50, "work is not 1 .. 30"), ("DrawShares", 55, "bits are not 0 .. 8"), ("DrawShares", 67, "step is not 1 .. 30"), ("DrawShares", 69, "times is not 0 .. 4"), ("DrawShares", 82, "there is no such rank"), ("DrawShares", 88, "there are 24 acts"), ("DrawShares", 94, "workers is not 1 .. 6")]
def evC : List (String × String) := [("java/lang/IllegalArgumentException", "java/lang/IndexOutOfBoundsException"), ("java/lang/IllegalStateException", "java/lang/IndexOutOfBoundsException")]
/-- what holds of the machine beside the code; A: where a method may write -/
def EV (A : Nat → Prop) (U : State) (H : Heap) : Prop := (∀ w ∈ lw_tbl, okw w = true → w.before #[] U = true) ∧ (∀ q ∈ evS, ∃ sa : Nat, vk_R q.1 q.2.1 q.2.2 sa U) ∧ vx_Zq Bundle.tN "UNASSIGNED_STACK" Bundle.steD A U H ∧ vx_Zq Bundle.tN "SUPPRESSED_SENTINEL" Bundle.listD A U H ∧ (∀ q ∈ evC, va_Nc q.1 q.2 U)
theorem EV.t {A : Nat → Prop} {U : State} {H : Heap} (h : EV A U H) {w : Cond} (hw : w ∈ lw_tbl) (hk : okw w = true) {args : Array Value} : w.before args U = true := okw_any hk (h.1 w hw hk)
theorem EV.t0 {A : Nat → Prop} {U : State} {H : Heap} (h : EV A U H) {w : Cond} (hw : w ∈ lw_tbl) (hk : okw w = true) : va_Nw w U := h.1 w hw hk
theorem EV.ts {A : Nat → Prop} {U : State} {H : Heap} (h : EV A U H) {args : Array Value} : ∀ w ∈ lw_good, w.before args U = true := fun w hw => h.t (List.mem_filter.mp hw).1 (by unfold okw; rw [(List.mem_filter.mp hw).2]; rfl)
theorem EV.st {A : Nat → Prop} {U : State} {H : Heap} (h : EV A U H) (q : String × Nat × String) (hq : q ∈ evS) : ∃ sa : Nat, vk_R q.1 q.2.1 q.2.2 sa U := h.2.1 q hq
theorem EV.zu {A : Nat → Prop} {U : State} {H : Heap} (h : EV A U H) : vx_Zq Bundle.tN "UNASSIGNED_STACK" Bundle.steD A U H := h.2.2.1
theorem EV.zn {A : Nat → Prop} {U : State} {H : Heap} (h : EV A U H) : vx_Zq Bundle.tN "SUPPRESSED_SENTINEL" Bundle.listD A U H := h.2.2.2.1
theorem EV.nc {A : Nat → Prop} {U : State} {H : Heap} (h : EV A U H) (q : String × String) (hq : q ∈ evC) : va_Nc q.1 q.2 U := h.2.2.2.2 q hq
theorem EV.give {A B : Nat → Prop} {s U : State} {H0 H : Heap} {locs : List Loc} (h : EV A s H0) (hS : va_S A H0 H locs) (hF : ∀ q, B q → A q) (hU : U.heap = H) (hW : s.WarmedH U.vm) : EV B U U.heap := by
  rw [hU]
  exact ⟨fun w hw hk => okw_warm hk hW (h.1 w hw hk), fun q hq => (h.2.1 q hq).elim fun sa hs => ⟨sa, vk_R.warm hW hs⟩, vx_Zq.moved hW.alike ((vx_Zq.kept h.2.2.1 hS.2.1).narrow hF), vx_Zq.moved hW.alike ((vx_Zq.kept h.2.2.2.1 hS.2.1).narrow hF), fun q hq => va_Nc.moved hW.alike (h.2.2.2.2 q hq)⟩
theorem EV.calling {A : Nat → Prop} {U : State} (h : EV A U U.heap) (g : JFrame) (mk : MethodId) (a : Array Value) : EV A (U.calling g mk a) (U.calling g mk a).heap :=
  h.give (va_S.rf (A := A) (H0 := U.heap)) (fun _ h => h) rfl (State.WarmedH.refl U)
/-! ===== a contract's start and end over the class's world ===== -/
abbrev PX (dC : Nat → ClassId) (dI : Nat → Nat → Nat) (c0 : ClassId) (a : Nat → Nat) (u : xS) (sz : Nat) : State → Prop := fun U => U.heap.size = sz ∧ va_P (dC, dI) vwCl (wX c0 a u) U.heap ∧ va_K (dC, dI) vwCl [(c0, .int)] U ∧ va_D (fun _ => True) (wX c0 a u) ∧ EV (va_A (wX c0 a u) sz) U U.heap
abbrev BX (dC : Nat → ClassId) (dI : Nat → Nat → Nat) (c0 : ClassId) (a : Nat → Nat) (A : Nat → Prop) (u : xS) (t : State) : Prop := va_P (dC, dI) vwCl (wX c0 a u) t.heap ∧ va_K (dC, dI) vwCl [(c0, .int)] t ∧ va_D A (wX c0 a u)
theorem gz {α : Type} {P : α → Prop} {x : α} (h : ∀ z, z = x → P z) : P x := h x rfl
theorem fre {A : Nat → Prop} {ws : va_W} {H0 H : Heap} {locs : List Loc} (hD : va_D A ws) (hS : va_S A H0 H locs) (hA : ∀ q, H0.size ≤ q → A q) : ∀ q, va_A ws H.size q → A q := fun q h => h.elim (fun ⟨k, e, hk⟩ => hD.2 k (q, e) hk) (fun h => hA q (Nat.le_trans hS.1 h))
theorem fre1 {A : Nat → Prop} {ws : va_W} {H0 H : Heap} {locs : List Loc} (hD : va_D A ws) (hS : va_S A H0 H locs) (hA : ∀ q, H0.size ≤ q → A q) {k : Nat} {x : Nat × va_E} (hk : ws[k]? = some x) : ∀ q, va_A [x] H.size q → A q := fun q h => h.elim (fun ⟨j, e, hj⟩ => by
  match j, hj with
  | 0, hj => cases hj; exact hD.2 k _ hk
  | j + 1, hj => simp at hj) (fun h => hA q (Nat.le_trans hS.1 h))
theorem PX_blind {dC : Nat → ClassId} {dI : Nat → Nat → Nat} {c0 : ClassId} {a : Nat → Nat} {u : xS} {sz : Nat} {av : List Value} : FrameBlind (va_Pc av (PX dC dI c0 a u sz)) := fun a U g mk q => by
  obtain ⟨q0, q1, q2, q3, q4, q5⟩ := q
  exact ⟨q0, q1, q2, va_K.moved (u := U) (U := U.calling g mk a) (Vm.Alike.refl U.vm) q3, q4, q5.calling g mk a⟩
theorem PX_give {dC : Nat → ClassId} {dI : Nat → Nat → Nat} {c0 : ClassId} {a : Nat → Nat} {u : xS} {s : State} {H : Heap} {A : Nat → Prop} {locs : List Loc} {av : List Value} (hP : va_P (dC, dI) vwCl (wX c0 a u) H) (hK : va_K (dC, dI) vwCl [(c0, .int)] s) (hD : va_D A (wX c0 a u)) (hE : EV A s s.heap) (hS : va_S A s.heap H locs) (hF : ∀ q, va_A (wX c0 a u) H.size q → A q) : ∀ U : State, U.heap = H → s.WarmedH U.vm → va_Pc av (PX dC dI c0 a u H.size) av.toArray U := fun U hU hW =>
  ⟨rfl, by rw [hU], by rw [hU]; exact hP, va_K.moved hW.alike hK, hD.weaken (fun _ _ _ _ => trivial), hE.give hS hF hU hW⟩
theorem PX_take {dC : Nat → ClassId} {dI : Nat → Nat → Nat} {c0 : ClassId} {a : Nat → Nat} {u : xS} {t : State} {H1 : Heap} {A B : Nat → Prop} (ht : t.heap = H1) (hF : ∀ q, B q → A q) (hB : BX dC dI c0 a B u t) : va_P (dC, dI) vwCl (wX c0 a u) H1 ∧ va_D A (wX c0 a u) := by
  obtain ⟨h1, -, h3⟩ := hB
  rw [ht] at h1
  exact ⟨h1, h3.weaken (fun _ q _ h => hF q.1 h)⟩
theorem thr_B {D : va_G} {cl : List vw_C} {ws : va_W} {tys : List (ClassId × FieldType)} {A : Nat → Prop} {s t : State} {H : Heap} {locs : List Loc} (hP : va_P D cl ws H) (hK : va_K D cl tys s) (hD : va_D A ws) (hS : va_S A s.heap H locs) (hvm : s.vm.Alike t.vm) (h1 : H.size ≤ t.heap.size) (h2 : ∀ q : Nat, q < H.size → t.heap[q]? = H[q]?) : (va_P D cl ws t.heap ∧ va_K D cl tys t ∧ va_D A ws) ∧ va_F A s t :=
  ⟨⟨hP.kept (fun k q hq => h2 q.1 (hP k q hq).lt), va_K.moved hvm hK, hD⟩, Nat.le_trans hS.1 h1, fun q hq hn => (h2 q (Nat.lt_of_lt_of_le hq hS.1)).trans (hS.2.1 q hq hn)⟩
/-! ===== numbers ===== -/
theorem cl_eq {st : Int32} {i : Nat} (hi : i ≤ st.toNatClampNeg) (h : st ≤ nI i) : i = st.toNatClampNeg := by
  by_cases h0 : st < 0
  · have : st.toNatClampNeg = 0 := by
      have h1 : st.toInt < 0 := by simpa using (Int32.lt_iff_toInt_lt.mp h0)
      simp only [Int32.toNatClampNeg]; omega
    omega
  · obtain ⟨j, hj, rfl⟩ := nI_of h0
    rw [nI_clamp hj] at hi ⊢
    have := (nI_leI hj (by omega)).mp h
    omega
theorem cl_lt {st : Int32} {i : Nat} (hi : i ≤ st.toNatClampNeg) (h : ¬ st ≤ nI i) : i < st.toNatClampNeg := by
  rcases Nat.lt_or_ge i st.toNatClampNeg with q | q
  · exact q
  · refine absurd ?_ h
    have e : i = st.toNatClampNeg := by omega
    by_cases h0 : st < 0
    · have h1 : st.toInt < 0 := by simpa using (Int32.lt_iff_toInt_lt.mp h0)
      have h2 : st.toNatClampNeg = 0 := by simp only [Int32.toNatClampNeg]; omega
      rw [e, h2, nI_0, Int32.le_iff_toInt_le, Int32.toInt_zero]; omega
    · obtain ⟨j, hj, rfl⟩ := nI_of h0
      rw [nI_clamp hj] at e
      rw [e]
      exact nI_le (Nat.le_refl _) hj
theorem in_of {k : Int32} {n : Nat} (h1 : ¬ k < 0) (h2 : k < nI n) (hn : n < 2 ^ 31) : vp_in k n := by
  obtain ⟨j, hj, rfl⟩ := nI_of h1
  exact vp_in_nI ((nI_ltI hj hn).mp h2) hn
theorem in_le {k : Int32} {n N : Nat} (h : vp_in k n) (hn : n ≤ N) : vp_in k N := fun q => h (q.imp id (fun q => Nat.le_trans hn q))
theorem ct_lt {c : Nat} (h : c ≤ 24) (h2 : nI c < 24) : c < 24 := by
  rcases Nat.lt_or_ge c 24 with q | q
  · exact q
  · have : c = 24 := by omega
    subst this
    exact absurd h2 (by decide)
theorem sw4 (k : Int32) (h : ¬ (k.toInt < 0 ∨ 3 < k.toInt)) : k = 0 ∨ k = 1 ∨ k = 2 ∨ k = 3 := by
  have h0 : ¬ k < 0 := fun q => h (Or.inl (by simpa using (Int32.lt_iff_toInt_lt.mp q)))
  obtain ⟨j, hj, rfl⟩ := nI_of h0
  rw [nI_toInt hj] at h
  have : j = 0 ∨ j = 1 ∨ j = 2 ∨ j = 3 := by omega
  rcases this with rfl | rfl | rfl | rfl
  · exact Or.inl rfl
  · exact Or.inr (Or.inl rfl)
  · exact Or.inr (Or.inr (Or.inl rfl))
  · exact Or.inr (Or.inr (Or.inr rfl))
theorem ne4 {k : Int32} (h : k.toInt < 0 ∨ 3 < k.toInt) : ¬ k = 0 ∧ ¬ k = 1 ∧ ¬ k = 2 ∧ ¬ k = 3 := by
  refine ⟨?_, ?_, ?_, ?_⟩ <;> (rintro rfl; revert h; decide)
/-! ===== starts of other shapes: constructors, rows filled ===== -/
abbrev PI (dC : Nat → ClassId) (dI : Nat → Nat → Nat) (ws : va_W) (tys : List (ClassId × FieldType)) (sz : Nat) : State → Prop := fun U => U.heap.size = sz ∧ va_P (dC, dI) vwCl ws U.heap ∧ va_K (dC, dI) vwCl tys U ∧ va_D (fun _ => True) ws
abbrev PJ (dC : Nat → ClassId) (dI : Nat → Nat → Nat) (ws : va_W) (sz : Nat) : State → Prop := fun U => U.heap.size = sz ∧ va_P (dC, dI) vwCl ws U.heap ∧ va_K (dC, dI) vwCl [] U ∧ va_D (fun _ => True) ws ∧ EV (va_A ws sz) U U.heap
theorem ini_blind {dC : Nat → ClassId} {dI : Nat → Nat → Nat} {ws : va_W} {tys : List (ClassId × FieldType)} {sz : Nat} {av : List Value} : FrameBlind (va_Pc av (PI dC dI ws tys sz)) := fun a U g mk q => by
  obtain ⟨q0, q1, q2, q3, q4⟩ := q
  exact ⟨q0, q1, q2, va_K.moved (u := U) (U := U.calling g mk a) (Vm.Alike.refl U.vm) q3, q4⟩
theorem fill_give {dC : Nat → ClassId} {dI : Nat → Nat → Nat} {ws : va_W} {tys : List (ClassId × FieldType)} {s : State} {H : Heap} {A : Nat → Prop} {av : List Value} (hP : va_P (dC, dI) vwCl ws H) (hK : va_K (dC, dI) vwCl tys s) (hD : va_D A ws) : ∀ U : State, U.heap = H → s.WarmedH U.vm → va_Pc av (PI dC dI ws tys H.size) av.toArray U := fun U hU hW =>
  ⟨rfl, by rw [hU], by rw [hU]; exact hP, va_K.moved hW.alike hK, hD.weaken (fun _ _ _ _ => trivial)⟩
theorem ini_give {dC : Nat → ClassId} {dI : Nat → Nat → Nat} {ws : va_W} {tys : List (ClassId × FieldType)} {s : State} {H : Heap} {A : Nat → Prop} {av : List Value} (hP : va_P (dC, dI) vwCl ws H) (hK : va_K (dC, dI) vwCl tys s) (hD : va_D A ws) : ∀ U : State, U.heap = H → s.WarmedH U.vm → va_Pc av (PI dC dI ws [] H.size) av.toArray U := fill_give hP (hK.sub [] rfl) hD
theorem ev_blind {dC : Nat → ClassId} {dI : Nat → Nat → Nat} {ws : va_W} {sz : Nat} {av : List Value} : FrameBlind (va_Pc av (PJ dC dI ws sz)) := fun a U g mk q => by
  obtain ⟨q0, q1, q2, q3, q4, q5⟩ := q
  exact ⟨q0, q1, q2, va_K.moved (u := U) (U := U.calling g mk a) (Vm.Alike.refl U.vm) q3, q4, q5.calling g mk a⟩
theorem ev_give {dC : Nat → ClassId} {dI : Nat → Nat → Nat} {ws : va_W} {tys : List (ClassId × FieldType)} {s : State} {H : Heap} {A : Nat → Prop} {locs : List Loc} {av : List Value} (hP : va_P (dC, dI) vwCl ws H) (hK : va_K (dC, dI) vwCl tys s) (hD : va_D A ws) (hE : EV A s s.heap) (hS : va_S A s.heap H locs) (hF : ∀ q, va_A ws H.size q → A q) : ∀ U : State, U.heap = H → s.WarmedH U.vm → va_Pc av (PJ dC dI ws H.size) av.toArray U := fun U hU hW =>
  ⟨rfl, by rw [hU], by rw [hU]; exact hP, va_K.moved hW.alike (hK.sub [] rfl), hD.weaken (fun _ _ _ _ => trivial), hE.give hS hF hU hW⟩
theorem cls_eq {D : va_G} {cl : List vw_C} {tys : List (ClassId × FieldType)} {s : State} {c1 c2 : ClassId} (hK : va_K D cl tys s) (i j : Nat) (hi : tys[i]? = some (c1, .int)) (hj : tys[j]? = some (c2, .int)) : c1 = c2 := by
  have h1 : s.vm.findClass _ = some c1 := (hK.2 i _ hi).2
  have h2 : s.vm.findClass _ = some c2 := (hK.2 j _ hj).2
  exact Option.some.inj (h1.symm.trans h2)
/-- one cell of a world behind a call that got it alone -/
theorem fill_take {D : va_G} {cl : List vw_C} {tys : List (ClassId × FieldType)} {A B : Nat → Prop} {ws : va_W} {H H1 : Heap} {t : State} {k q : Nat} {x y : va_E} (hP : va_P D cl ws H) (hD : va_D A ws) (hk : ws[k]? = some (q, x)) (ht : t.heap = H1) (hk1 : ∀ z : Nat, z < H.size → ¬ va_A [(q, x)] H.size z → H1[z]? = H[z]?) (hB : va_P D cl [(q, y)] t.heap ∧ va_K D cl tys t ∧ va_D B [(q, y)]) : va_P D cl (ws.set k (q, y)) H1 ∧ va_D A (ws.set k (q, y)) := by
  refine ⟨fun j z hj => ?_, hD.set hk⟩
  by_cases e : j = k
  · subst e
    have hl : j < ws.length := (List.getElem?_eq_some_iff.mp hk).1
    rw [List.getElem?_set_self hl] at hj
    cases hj
    have h1 := hB.1 0 (q, y) rfl
    rw [ht] at h1
    exact h1
  · rw [List.getElem?_set_ne (Ne.symm e)] at hj
    have h1 := hP j z hj
    refine h1.kept (hk1 z.1 h1.lt ?_)
    rintro (⟨i, v, hi⟩ | h)
    · match i, hi with
      | 0, hi => cases hi; exact e (hD.1 j k z (z.1, x) hj hk rfl)
      | i + 1, hi => simp at hi
    · exact absurd h1.lt (Nat.not_lt.mpr h)
/-- how many shares -/
def szN (p : Int32) : Nat := (if 1 < (if p < 40 then p else 40) then (if p < 40 then p else 40) else 1).toNatClampNeg
theorem szN_in (p : Int32) : (if 1 < (if p < 40 then p else 40) then (if p < 40 then p else 40) else 1) = nI (szN p) ∧ 1 ≤ szN p ∧ szN p ≤ 40 := by
  obtain ⟨x, hx⟩ : ∃ x : Int32, x = (if 1 < (if p < 40 then p else 40) then (if p < 40 then p else 40) else 1) := ⟨_, rfl⟩
  have h1 : 1 ≤ x ∧ x ≤ 40 := by
    rw [hx]
    by_cases a : p < 40
    · rw [if_pos a]
      by_cases b : 1 < p
      · rw [if_pos b]; exact ⟨Int32.le_of_lt b, Int32.le_of_lt a⟩
      · rw [if_neg b]; exact ⟨Int32.le_refl _, by decide⟩
    · rw [if_neg a]; decide
  have h0 : ¬ x < 0 := by
    have := Int32.le_iff_toInt_le.mp h1.1
    intro q
    have q2 := Int32.lt_iff_toInt_lt.mp q
    have e1 : (1 : Int32).toInt = 1 := by decide
    have e0 : (0 : Int32).toInt = 0 := by decide
    omega
  obtain ⟨j, hj, hxj⟩ := nI_of h0
  have e : szN p = j := by
    unfold szN
    rw [← hx, hxj, nI_clamp hj]
  rw [← hx, e, hxj]
  rw [hxj] at h1
  have a1 := (nI_leI (a := 1) (b := j) (by omega) hj).mp h1.1
  have a2 := (nI_leI (a := j) (b := 40) hj (by omega)).mp h1.2
  exact ⟨rfl, a1, a2⟩
/-- a new object of n shares -/
def x0 (n : Nat) : xS := (n, fil (fun _ => 1) (fun _ => 0) n, fun _ => 0, fun _ => 0, fil (fun _ => 1) (fun _ => 0) n, fun _ => 0, fun _ => 0, fun _ => 0, fun _ => 0, fun _ => 0, fun _ => 0, -1, 0, 0, 0, 0, 0, 0, 0, 0)
def xok (u : xS) : Prop := match u with
  | (n, _, _, _, _, _, _, _, _, _, _, _, _, _, ct, _, _, _, _, _) => n ≤ 40 ∧ ct ≤ 24
/-! ===== the law's own row of one long beside the class ===== -/
abbrev WO (c0 cL : ClassId) (a : Nat → Nat) (o : Nat) (u : xS) (g : Nat → Int64) : va_W := (o, .inl (cL, 1, .inr (.inl g))) :: wX c0 a u
abbrev PW (dC : Nat → ClassId) (dI : Nat → Nat → Nat) (c0 cL : ClassId) (a : Nat → Nat) (o : Nat) (u : xS) (g : Nat → Int64) (sz : Nat) : State → Prop := fun U => U.heap.size = sz ∧ va_P (dC, dI) vwCl (WO c0 cL a o u g) U.heap ∧ va_K (dC, dI) vwCl [(c0, .int), (cL, .long)] U ∧ va_D (fun _ => True) (WO c0 cL a o u g) ∧ EV (va_A (WO c0 cL a o u g) sz) U U.heap
theorem dsw {A : Nat → Prop} {P Q : va_W} (h : va_D A (P ++ Q)) : va_D A (Q ++ P) := by
  have hl : va_D A P := ⟨fun i j p q hi hj e => h.1 i j p q (by rw [List.getElem?_append_left (List.getElem?_eq_some_iff.mp hi).1]; exact hi) (by rw [List.getElem?_append_left (List.getElem?_eq_some_iff.mp hj).1]; exact hj) e, fun k q hk => h.2 k q (by rw [List.getElem?_append_left (List.getElem?_eq_some_iff.mp hk).1]; exact hk)⟩
  have key : ∀ (k : Nat) (q : Nat × va_E), Q[k]? = some q → (P ++ Q)[P.length + k]? = some q := fun k q hk => by
    rw [List.getElem?_append_right (by omega), show P.length + k - P.length = k by omega]; exact hk
  have hr : va_D A Q := ⟨fun i j p q hi hj e => by have := h.1 _ _ p q (key i p hi) (key j q hj) e; omega, fun k q hk => h.2 _ q (key k q hk)⟩
  refine hr.app hl (fun i j p q hi hj e => ?_)
  have h1 := h.1 _ _ q p (by rw [List.getElem?_append_left (List.getElem?_eq_some_iff.mp hj).1]; exact hj) (key i p hi) e.symm
  have := (List.getElem?_eq_some_iff.mp hj).1
  omega
theorem dl {A : Nat → Prop} {P Q : va_W} (h : va_D A (P ++ Q)) : va_D A P := ⟨fun i j p q hi hj e => h.1 i j p q (by rw [List.getElem?_append_left (List.getElem?_eq_some_iff.mp hi).1]; exact hi) (by rw [List.getElem?_append_left (List.getElem?_eq_some_iff.mp hj).1]; exact hj) e, fun k q hk => h.2 k q (by rw [List.getElem?_append_left (List.getElem?_eq_some_iff.mp hk).1]; exact hk)⟩
theorem dr {A : Nat → Prop} {P Q : va_W} (h : va_D A (P ++ Q)) : va_D A Q := dl (dsw h)
/-- the rest Q behind a call that got the cells P -/
theorem jnL {D : va_G} {cl : List vw_C} {A : Nat → Prop} {P P2 Q : va_W} {H H1 : Heap} (hQ : va_P D cl Q H) (hD : va_D A (Q ++ P)) (hk : ∀ q : Nat, q < H.size → ¬ va_A P H.size q → H1[q]? = H[q]?) (hD1 : va_D (va_A P H.size) P2) (hF : ∀ q, va_A P H.size q → A q) : va_P D cl Q H1 ∧ va_D A (Q ++ P2) := by
  have hD2 := dsw hD
  have no : ∀ (k : Nat) (q : Nat × va_E), Q[k]? = some q → ¬ va_A P H.size q.1 := by
    intro k q hk9 h
    rcases h with ⟨j, e, hj⟩ | h
    · have h1 : (P ++ Q)[j]? = some (q.1, e) := by rw [List.getElem?_append_left (List.getElem?_eq_some_iff.mp hj).1]; exact hj
      have h2 : (P ++ Q)[P.length + k]? = some q := by rw [List.getElem?_append_right (by omega), show P.length + k - P.length = k by omega]; exact hk9
      have h3 := hD2.1 _ _ _ _ h1 h2 rfl
      have := (List.getElem?_eq_some_iff.mp hj).1
      omega
    · exact absurd (hQ k q hk9).lt (Nat.not_lt.mpr h)
  refine ⟨hQ.kept (fun k q hk9 => hk q.1 (hQ k q hk9).lt (no k q hk9)), ?_⟩
  refine (dl hD).app (hD1.weaken (fun _ q _ h => hF q.1 h)) (fun i j p q hi hj e => ?_)
  exact no i p hi (by rw [e]; exact hD1.2 j q hj)
theorem PW_blind {dC : Nat → ClassId} {dI : Nat → Nat → Nat} {c0 cL : ClassId} {a : Nat → Nat} {o : Nat} {u : xS} {g : Nat → Int64} {sz : Nat} {av : List Value} : FrameBlind (va_Pc av (PW dC dI c0 cL a o u g sz)) := fun a U g mk q => by
  obtain ⟨q0, q1, q2, q3, q4, q5⟩ := q
  exact ⟨q0, q1, q2, va_K.moved (u := U) (U := U.calling g mk a) (Vm.Alike.refl U.vm) q3, q4, q5.calling g mk a⟩
theorem PW_give {dC : Nat → ClassId} {dI : Nat → Nat → Nat} {c0 cL : ClassId} {a : Nat → Nat} {o : Nat} {u : xS} {g : Nat → Int64} {s : State} {H : Heap} {A : Nat → Prop} {locs : List Loc} {av : List Value} (hP : va_P (dC, dI) vwCl (WO c0 cL a o u g) H) (hK : va_K (dC, dI) vwCl [(c0, .int), (cL, .long)] s) (hD : va_D A (WO c0 cL a o u g)) (hE : EV A s s.heap) (hS : va_S A s.heap H locs) (hF : ∀ q, va_A (WO c0 cL a o u g) H.size q → A q) : ∀ U : State, U.heap = H → s.WarmedH U.vm → va_Pc av (PW dC dI c0 cL a o u g H.size) av.toArray U := fun U hU hW =>
  ⟨rfl, by rw [hU], by rw [hU]; exact hP, va_K.moved hW.alike hK, hD.weaken (fun _ _ _ _ => trivial), hE.give hS hF hU hW⟩
end
section
theorem at_X0_IllegalArgumentException : ∀ w ∈ (vx_atS RX0 52 "java/lang/IllegalArgumentException" ["java/lang/RuntimeException", "java/lang/Exception"]).filter goodWord, w ∈ lw_tbl := by decide +kernel
theorem ab_X0_IllegalArgumentException : ∀ w ∈ (vx_atS RX0 52 "java/lang/IllegalArgumentException" ["java/lang/RuntimeException", "java/lang/Exception"]).filter (fun w => !goodWord w), w ∈ ([.castable "java/lang/IllegalArgumentException" "java/lang/IllegalArgumentException", .declares ⟨"java/lang/RuntimeException", "<init>", "(Ljava/lang/String;)V"⟩, .declares ⟨"java/lang/Exception", "<init>", "(Ljava/lang/String;)V"⟩, .declares ⟨"java/lang/Throwable", "<init>", "(Ljava/lang/String;)V"⟩] : List Cond) := by decide +kernel
theorem at_X0_IndexOutOfBoundsException : ∀ w ∈ (vx_atS RX0 84 "java/lang/IndexOutOfBoundsException" ["java/lang/RuntimeException", "java/lang/Exception"]).filter goodWord, w ∈ lw_tbl := by decide +kernel
theorem ab_X0_IndexOutOfBoundsException : ∀ w ∈ (vx_atS RX0 84 "java/lang/IndexOutOfBoundsException" ["java/lang/RuntimeException", "java/lang/Exception"]).filter (fun w => !goodWord w), w ∈ ([.castable "java/lang/IndexOutOfBoundsException" "java/lang/IndexOutOfBoundsException", .declares ⟨"java/lang/RuntimeException", "<init>", "(Ljava/lang/String;)V"⟩, .declares ⟨"java/lang/Exception", "<init>", "(Ljava/lang/String;)V"⟩, .declares ⟨"java/lang/Throwable", "<init>", "(Ljava/lang/String;)V"⟩] : List Cond) := by decide +kernel
theorem at_X0_IllegalStateException : ∀ w ∈ (vx_atS RX0 90 "java/lang/IllegalStateException" ["java/lang/RuntimeException", "java/lang/Exception"]).filter goodWord, w ∈ lw_tbl := by decide +kernel
theorem ab_X0_IllegalStateException : ∀ w ∈ (vx_atS RX0 90 "java/lang/IllegalStateException" ["java/lang/RuntimeException", "java/lang/Exception"]).filter (fun w => !goodWord w), w ∈ ([.castable "java/lang/IllegalStateException" "java/lang/IllegalStateException", .declares ⟨"java/lang/RuntimeException", "<init>", "(Ljava/lang/String;)V"⟩, .declares ⟨"java/lang/Exception", "<init>", "(Ljava/lang/String;)V"⟩, .declares ⟨"java/lang/Throwable", "<init>", "(Ljava/lang/String;)V"⟩] : List Cond) := by decide +kernel
theorem gd_X0_IllegalArgumentException : ∀ w ∈ Cond.classLink RX0 48 "java/lang/IllegalArgumentException" :: Cond.initialized "java/lang/IllegalArgumentException" :: vx_atS RX0 52 "java/lang/IllegalArgumentException" ["java/lang/RuntimeException", "java/lang/Exception"], vx_ot w = true := by decide +kernel
theorem gd_X0_IndexOutOfBoundsException : ∀ w ∈ Cond.classLink RX0 80 "java/lang/IndexOutOfBoundsException" :: Cond.initialized "java/lang/IndexOutOfBoundsException" :: vx_atS RX0 84 "java/lang/IndexOutOfBoundsException" ["java/lang/RuntimeException", "java/lang/Exception"], vx_ot w = true := by decide +kernel
theorem gd_X0_IllegalStateException : ∀ w ∈ Cond.classLink RX0 86 "java/lang/IllegalStateException" :: Cond.initialized "java/lang/IllegalStateException" :: vx_atS RX0 90 "java/lang/IllegalStateException" ["java/lang/RuntimeException", "java/lang/Exception"], vx_ot w = true := by decide +kernel
theorem gX1_lastValue_X1_behind : GoodIn lw_good (wsV RX1 41 RX1 yX1_behind wsX1_behind) := gm (List.forall_mem_cons.mpr ⟨⟨m_328, rfl⟩, List.forall_mem_cons.mpr ⟨⟨m_330, rfl⟩, List.forall_mem_cons.mpr ⟨⟨m_6, rfl⟩, List.forall_mem_cons.mpr ⟨⟨m_23, rfl⟩, List.forall_mem_cons.mpr ⟨⟨m_331, rfl⟩, fun _ h => absurd h List.not_mem_nil⟩⟩⟩⟩⟩)
theorem gX3_doAll_X1_lastValue : GoodIn lw_good wsX1_lastValue := gm (List.forall_mem_cons.mpr ⟨⟨m_327, rfl⟩, fun _ h => absurd h List.not_mem_nil⟩)
theorem gX3_doAll_X1_stepsWithLosses : GoodIn lw_good wsX1_stepsWithLosses := gm (List.forall_mem_cons.mpr ⟨⟨m_338, rfl⟩, fun _ h => absurd h List.not_mem_nil⟩)
theorem gX3_joinAll_J0_fill : GoodIn lw_good (va_wsS RX3 51 yJ0_fill wsJ0_fill) := gm (List.forall_mem_cons.mpr ⟨⟨m_344, rfl⟩, List.forall_mem_cons.mpr ⟨⟨m_55, rfl⟩, List.forall_mem_cons.mpr ⟨⟨m_24, rfl⟩, List.forall_mem_cons.mpr ⟨⟨m_56, rfl⟩, fun _ h => absurd h List.not_mem_nil⟩⟩⟩⟩)
theorem gX3_joinAll_X3_letIn : GoodIn lw_good (wsV RX3 57 RX3 yX3_letIn wsX3_letIn) := gm (List.forall_mem_cons.mpr ⟨⟨m_345, rfl⟩, List.forall_mem_cons.mpr ⟨⟨m_347, rfl⟩, List.forall_mem_cons.mpr ⟨⟨m_9, rfl⟩, List.forall_mem_cons.mpr ⟨⟨m_26, rfl⟩, List.forall_mem_cons.mpr ⟨⟨m_348, rfl⟩, fun _ h => absurd h List.not_mem_nil⟩⟩⟩⟩⟩)
theorem gX3_joinAll_X1_settles : GoodIn lw_good wsX1_settles := gm (List.forall_mem_cons.mpr ⟨⟨m_354, rfl⟩, fun _ h => absurd h List.not_mem_nil⟩)
theorem gX0_share_X0_needShare : GoodIn lw_good (wsV RX0 45 RX0 yX0_needShare wsX0_needShare) := gm (List.forall_mem_cons.mpr ⟨⟨m_174, rfl⟩, List.forall_mem_cons.mpr ⟨⟨m_176, rfl⟩, List.forall_mem_cons.mpr ⟨⟨m_0, rfl⟩, List.forall_mem_cons.mpr ⟨⟨m_21, rfl⟩, List.forall_mem_cons.mpr ⟨⟨m_177, rfl⟩, fun _ h => absurd h List.not_mem_nil⟩⟩⟩⟩⟩)
theorem gX0_fails_X0_needShare : GoodIn lw_good (wsV RX0 45 RX0 yX0_needShare wsX0_needShare) := gm (List.forall_mem_cons.mpr ⟨⟨m_174, rfl⟩, List.forall_mem_cons.mpr ⟨⟨m_176, rfl⟩, List.forall_mem_cons.mpr ⟨⟨m_0, rfl⟩, List.forall_mem_cons.mpr ⟨⟨m_21, rfl⟩, List.forall_mem_cons.mpr ⟨⟨m_177, rfl⟩, fun _ h => absurd h List.not_mem_nil⟩⟩⟩⟩⟩)
theorem gX0_act_X2_append : GoodIn lw_good wsX2_append := gm (List.forall_mem_cons.mpr ⟨⟨m_300, rfl⟩, fun _ h => absurd h List.not_mem_nil⟩)
theorem gX0_stop_X0_needShare : GoodIn lw_good (wsV RX0 45 RX0 yX0_needShare wsX0_needShare) := gm (List.forall_mem_cons.mpr ⟨⟨m_174, rfl⟩, List.forall_mem_cons.mpr ⟨⟨m_176, rfl⟩, List.forall_mem_cons.mpr ⟨⟨m_0, rfl⟩, List.forall_mem_cons.mpr ⟨⟨m_21, rfl⟩, List.forall_mem_cons.mpr ⟨⟨m_177, rfl⟩, fun _ h => absurd h List.not_mem_nil⟩⟩⟩⟩⟩)
theorem gX0_run_X1_allLosses : GoodIn lw_good wsX1_allLosses := gm (List.forall_mem_cons.mpr ⟨⟨m_319, rfl⟩, fun _ h => absurd h List.not_mem_nil⟩)
theorem gX0_run_X3_doAll : GoodIn lw_good wsX3_doAll := gm (List.forall_mem_cons.mpr ⟨⟨m_323, rfl⟩, fun _ h => absurd h List.not_mem_nil⟩)
theorem gX0_run_X3_joinAll : GoodIn lw_good wsX3_joinAll := gm (List.forall_mem_cons.mpr ⟨⟨m_343, rfl⟩, fun _ h => absurd h List.not_mem_nil⟩)
theorem gX0_joined_X0_needRun : GoodIn lw_good (wsV RX0 117 RX0 yX0_needRun wsX0_needRun) := gm (List.forall_mem_cons.mpr ⟨⟨m_362, rfl⟩, List.forall_mem_cons.mpr ⟨⟨m_364, rfl⟩, List.forall_mem_cons.mpr ⟨⟨m_11, rfl⟩, List.forall_mem_cons.mpr ⟨⟨m_21, rfl⟩, List.forall_mem_cons.mpr ⟨⟨m_365, rfl⟩, fun _ h => absurd h List.not_mem_nil⟩⟩⟩⟩⟩)
theorem gX0_many_X0_needRun : GoodIn lw_good (wsV RX0 117 RX0 yX0_needRun wsX0_needRun) := gm (List.forall_mem_cons.mpr ⟨⟨m_362, rfl⟩, List.forall_mem_cons.mpr ⟨⟨m_364, rfl⟩, List.forall_mem_cons.mpr ⟨⟨m_11, rfl⟩, List.forall_mem_cons.mpr ⟨⟨m_21, rfl⟩, List.forall_mem_cons.mpr ⟨⟨m_365, rfl⟩, fun _ h => absurd h List.not_mem_nil⟩⟩⟩⟩⟩)
theorem gX0_value_X0_needShare : GoodIn lw_good (wsV RX0 45 RX0 yX0_needShare wsX0_needShare) := gm (List.forall_mem_cons.mpr ⟨⟨m_174, rfl⟩, List.forall_mem_cons.mpr ⟨⟨m_176, rfl⟩, List.forall_mem_cons.mpr ⟨⟨m_0, rfl⟩, List.forall_mem_cons.mpr ⟨⟨m_21, rfl⟩, List.forall_mem_cons.mpr ⟨⟨m_177, rfl⟩, fun _ h => absurd h List.not_mem_nil⟩⟩⟩⟩⟩)
theorem gX0_value_X0_needRun : GoodIn lw_good (wsV RX0 117 RX0 yX0_needRun wsX0_needRun) := gm (List.forall_mem_cons.mpr ⟨⟨m_362, rfl⟩, List.forall_mem_cons.mpr ⟨⟨m_364, rfl⟩, List.forall_mem_cons.mpr ⟨⟨m_11, rfl⟩, List.forall_mem_cons.mpr ⟨⟨m_21, rfl⟩, List.forall_mem_cons.mpr ⟨⟨m_365, rfl⟩, fun _ h => absurd h List.not_mem_nil⟩⟩⟩⟩⟩)
theorem gX0_chain_X0_needShare : GoodIn lw_good (wsV RX0 45 RX0 yX0_needShare wsX0_needShare) := gm (List.forall_mem_cons.mpr ⟨⟨m_174, rfl⟩, List.forall_mem_cons.mpr ⟨⟨m_176, rfl⟩, List.forall_mem_cons.mpr ⟨⟨m_0, rfl⟩, List.forall_mem_cons.mpr ⟨⟨m_21, rfl⟩, List.forall_mem_cons.mpr ⟨⟨m_177, rfl⟩, fun _ h => absurd h List.not_mem_nil⟩⟩⟩⟩⟩)
theorem gX0_chain_X1_behind : GoodIn lw_good wsX1_behind := gm (List.forall_mem_cons.mpr ⟨⟨m_331, rfl⟩, fun _ h => absurd h List.not_mem_nil⟩)
theorem gX0_came_X0_needRun : GoodIn lw_good (wsV RX0 117 RX0 yX0_needRun wsX0_needRun) := gm (List.forall_mem_cons.mpr ⟨⟨m_362, rfl⟩, List.forall_mem_cons.mpr ⟨⟨m_364, rfl⟩, List.forall_mem_cons.mpr ⟨⟨m_11, rfl⟩, List.forall_mem_cons.mpr ⟨⟨m_21, rfl⟩, List.forall_mem_cons.mpr ⟨⟨m_365, rfl⟩, fun _ h => absurd h List.not_mem_nil⟩⟩⟩⟩⟩)
theorem gX0_begun_X0_needShare : GoodIn lw_good (wsV RX0 45 RX0 yX0_needShare wsX0_needShare) := gm (List.forall_mem_cons.mpr ⟨⟨m_174, rfl⟩, List.forall_mem_cons.mpr ⟨⟨m_176, rfl⟩, List.forall_mem_cons.mpr ⟨⟨m_0, rfl⟩, List.forall_mem_cons.mpr ⟨⟨m_21, rfl⟩, List.forall_mem_cons.mpr ⟨⟨m_177, rfl⟩, fun _ h => absurd h List.not_mem_nil⟩⟩⟩⟩⟩)
theorem gX0_begun_X0_needRun : GoodIn lw_good (wsV RX0 117 RX0 yX0_needRun wsX0_needRun) := gm (List.forall_mem_cons.mpr ⟨⟨m_362, rfl⟩, List.forall_mem_cons.mpr ⟨⟨m_364, rfl⟩, List.forall_mem_cons.mpr ⟨⟨m_11, rfl⟩, List.forall_mem_cons.mpr ⟨⟨m_21, rfl⟩, List.forall_mem_cons.mpr ⟨⟨m_365, rfl⟩, fun _ h => absurd h List.not_mem_nil⟩⟩⟩⟩⟩)
theorem gX0_steps_X0_needRun : GoodIn lw_good (wsV RX0 117 RX0 yX0_needRun wsX0_needRun) := gm (List.forall_mem_cons.mpr ⟨⟨m_362, rfl⟩, List.forall_mem_cons.mpr ⟨⟨m_364, rfl⟩, List.forall_mem_cons.mpr ⟨⟨m_11, rfl⟩, List.forall_mem_cons.mpr ⟨⟨m_21, rfl⟩, List.forall_mem_cons.mpr ⟨⟨m_365, rfl⟩, fun _ h => absurd h List.not_mem_nil⟩⟩⟩⟩⟩)
theorem gX1_init_J0_fill : GoodIn lw_good (va_wsS RX1 29 yJ0_fill wsJ0_fill) := gm (List.forall_mem_cons.mpr ⟨⟨m_54, rfl⟩, List.forall_mem_cons.mpr ⟨⟨m_55, rfl⟩, List.forall_mem_cons.mpr ⟨⟨m_24, rfl⟩, List.forall_mem_cons.mpr ⟨⟨m_56, rfl⟩, fun _ h => absurd h List.not_mem_nil⟩⟩⟩⟩)
theorem gX0_init_X1_init : GoodIn lw_good wsX1_init := gm (List.forall_mem_cons.mpr ⟨⟨m_52, rfl⟩, fun _ h => absurd h List.not_mem_nil⟩)
theorem gX0_init_X2_init : GoodIn lw_good wsX2_init := gm (List.forall_mem_cons.mpr ⟨⟨m_89, rfl⟩, fun _ h => absurd h List.not_mem_nil⟩)
theorem gX0_init_X3_init : GoodIn lw_good wsX3_init := gm (List.forall_mem_cons.mpr ⟨⟨m_109, rfl⟩, fun _ h => absurd h List.not_mem_nil⟩)
end
section
set_option maxHeartbeats 4000000 in
set_option maxRecDepth 100000 in
/-- Arrays.fill(row, v) -/
theorem c_fill (l : Launch) (dC : Nat → ClassId) (dI : Nat → Nat → Nat) (c0 : ClassId) (q : Nat) (sz : Nat) (n : Nat) (f : Nat → Int32) (v : Int32) (hn : n ≤ 1000) : Met l yJ0_fill wsJ0_fill ({ frames := 0, cells := 0, slots := 0, locals := 0 }) (va_Pc [.ref q, .int v] (PI dC dI [(q, .inl (c0, n, .inl f))] [(c0, .int)] sz)) (va_Qv (fun f2 : Nat → Int32 => f2 = fil (fun _ => v) f n) (fun f2 t => va_P (dC, dI) vwCl [(q, .inl (c0, n, .inl f2))] t.heap ∧ va_K (dC, dI) vwCl [(c0, .int)] t ∧ va_D (va_A [(q, .inl (c0, n, .inl f))] sz) [(q, .inl (c0, n, .inl f2))]) (va_A [(q, .inl (c0, n, .inl f))] sz)) 0 0 (va_A [(q, .inl (c0, n, .inl f))] sz) := by
  refine Met.ofW (cc := cJ0_fill) (maxL := 4) (ret := none) (by decide) rfl ?_
  intro p e s m args below meth c s₁ B hml hv
  obtain ⟨rfl, hsz, hP, hK, hD0⟩ := hv
  have hx := B.exec
  have hb := B.bytes
  have hr := B.returns
  have hown : s.vm.findClass RJ0 = some m.cls := findClass_of_methodNamed B.named
  have hlocks := B.notSynchronized
  subst hsz
  have hD := hD0.self (sz := s.heap.size)
  generalize hAe : va_A [(q, .inl (c0, n, .inl f))] s.heap.size = A at hD ⊢
  have hA : ∀ q : Nat, s.heap.size ≤ q → A q := fun q h => by rw [← hAe]; exact Or.inr h
  have hS : va_S A s.heap s.heap [] := va_S.rf
  have hP : va_P (dC, dI) vwCl ([(q, .inl (c0, n, .inl f))]) s.heap := hP
  refine gz (P := fun Z => W p l e _ s m _ below meth c _ _ _ _ Z _) (fun Z hZ => ?_)
  show W p l e _ s m _ below meth c _ _ _ _ Z _
  have hl := lv_entry ([.ref q, .int v]) (n := 4) (Nat.le_of_ble_eq_true rfl)
  rw [lg_entry_eq]
  generalize (lg_sl ([.ref q, .int v]) ++ List.replicate (4 - (lg_sl ([.ref q, .int v])).length) Slot.unset).toArray = ls at hl ⊢
  have hl : lv_has ls 4 [(0, .ref q), (1, .int v)] := hl
  refine lv_iconst (v := 0) hx hb dJ0_fill_0 (by decide) ?_
  refine lv_istore_n (lv' := [(2, .int 0), (0, .ref q), (1, .int v)]) hx hb dJ0_fill_1 rfl hl (by decide) rfl (fun ls hl => ?_)
  refine lv_aload_n hx hb dJ0_fill_2 rfl (lv_at hl 1 rfl) ?_
  refine va_alen hx hb hK hP 0 0 rfl rfl (v := nI n) rfl dJ0_fill_3 ?_
  refine lv_istore_n (lv' := [(3, .int (nI n)), (2, .int 0), (0, .ref q), (1, .int v)]) hx hb dJ0_fill_4 rfl hl (by decide) rfl (fun ls hl => ?_)
  have hloop5 : ∀ (fu : Nat) (i : Nat), n + 1 ≤ i + fu → i ≤ n → ∀ (H : Heap) (locs : List Loc) (ls : Array Slot), va_P (dC, dI) vwCl ([(q, .inl (c0, n, .inl (fil (fun _ => v) f i)))]) H → va_D A ([(q, .inl (c0, n, .inl (fil (fun _ => v) f i)))]) → va_S A s.heap H locs → lv_has ls 4 [(0, .ref q), (1, .int v), (2, .int (nI i)), (3, .int (nI n))] → W p l e (headSpec wsJ0_fill ({ frames := 0, cells := 0, slots := 0, locals := 0 })).room s m ([.ref q, .int v] : List Value).toArray below meth c H locs 0 0 Z (F0 m 5 ls []) := by
    intro fu
    induction fu with
    | zero =>
      intro i hfu hi
      exact absurd hfu (by omega)
    | succ fu ih5 =>
      intro i hfu hi H locs ls hP hD hS hl
      refine lv_iload_n hx hb dJ0_fill_5 rfl (lv_at hl 2 rfl) ?_
      refine lv_iload_n hx hb dJ0_fill_6 rfl (lv_at hl 3 rfl) ?_
      refine lv_icmp_ge (tgt := 20) hx hb dJ0_fill_7 (by decide) (fun c_7 => ?_) (fun c_7 => ?_)
      · skip
        have hie : i = n := by
          have h9 := (nI_leI (a := n) (b := i) (by omega) (by omega)).mp c_7
          omega
        rw [hie] at hP hD hl
        rw [hZ]
        exact W.vret hx hb hr (fun t ht hW => ⟨⟨fil (fun _ => v) f n, rfl, rfl, by rw [ht]; exact hP, va_K.moved hW.alike hK, hD⟩, hS.F ht⟩) hS.2.2 dJ0_fill_20
      · skip
        have hlt : i < n := by
          rcases Nat.lt_or_ge i n with h9 | h9
          · exact h9
          · exact absurd (nI_le h9 (by omega)) c_7
        refine lv_aload_n hx hb dJ0_fill_10 rfl (lv_at hl 0 rfl) ?_
        refine lv_iload_n hx hb dJ0_fill_11 rfl (lv_at hl 2 rfl) ?_
        refine lv_iload_n hx hb dJ0_fill_12 rfl (lv_at hl 1 rfl) ?_
        refine va_iast hx hb hK hP hD hS 0 0 rfl rfl (vp_in_nI (by omega) (by omega)) dJ0_fill_13 (fun H locs hP hD hS => ?_)
        rw [nI_clamp (n := i) (by omega)] at hP hD
        have hP : va_P (dC, dI) vwCl ([(q, .inl (c0, n, .inl (upd (fil (fun _ => v) f i) i v)))]) H := hP
        have hD : va_D A ([(q, .inl (c0, n, .inl (upd (fil (fun _ => v) f i) i v)))]) := hD
        refine lv_iinc (v := nI (i + 1)) (lv' := [(2, .int (nI (i + 1))), (0, .ref q), (1, .int v), (3, .int (nI n))]) hx hb dJ0_fill_14 hl (k := 2) rfl (by rw [← nI_1]; rfl) (by decide) rfl (fun ls hl => ?_)
        refine lv_goto (tgt := 5) hx hb dJ0_fill_17 (by decide) ?_
        exact ih5 (i + 1) (by omega) (by omega) _ _ _ hP hD hS (lv_sub hl [1, 2, 0, 3] rfl)
  have hl0 : lv_has ls 4 [(0, .ref q), (1, .int v), (2, .int (nI 0)), (3, .int (nI n))] := by
    rw [nI_0]; exact lv_sub hl [2, 3, 1, 0] rfl
  exact hloop5 (n + 1) 0 (by omega) (by omega) _ _ _ hP hD hS hl0
end
section
set_option maxHeartbeats 4000000 in
set_option maxRecDepth 100000 in
/-- Shares.behind(k, st): the chain behind st steps -/
theorem c_X1_behind (l : Launch) (dC : Nat → ClassId) (dI : Nat → Nat → Nat) (c0 : ClassId) (a : Nat → Nat) (sz : Nat) (n : Nat) (wk sd bt lt lo rk ad vl bg cm : Nat → Int32) (sp gd rf : Int32) (ct : Nat) (rd : Int32) (sm : Int64) (js sn wl : Int32) (k : Int32) (st : Int32) (hk : vp_in k n) : Met l yX1_behind wsX1_behind ({ frames := 0, cells := 0, slots := 0, locals := 0 }) (va_Pc [.ref (a 1), .int k, .int st] (PX dC dI c0 a (n, wk, sd, bt, lt, lo, rk, ad, vl, bg, cm, sp, gd, rf, ct, rd, sm, js, sn, wl) sz)) (va_Ql (fun (r : Int64) (u : xS) => u = (n, wk, sd, bt, lt, lo, rk, ad, vl, bg, cm, sp, gd, rf, ct, rd, sm, js, sn, wl) ∧ r = chx (sd k.toNatClampNeg) k st.toNatClampNeg) (BX dC dI c0 a (va_A (wX c0 a (n, wk, sd, bt, lt, lo, rk, ad, vl, bg, cm, sp, gd, rf, ct, rd, sm, js, sn, wl)) sz)) (va_A (wX c0 a (n, wk, sd, bt, lt, lo, rk, ad, vl, bg, cm, sp, gd, rf, ct, rd, sm, js, sn, wl)) sz)) 0 0 (va_A (wX c0 a (n, wk, sd, bt, lt, lo, rk, ad, vl, bg, cm, sp, gd, rf, ct, rd, sm, js, sn, wl)) sz) := by
  refine Met.ofW (cc := cX1_behind) (maxL := 6) (ret := (some .long)) (by decide) rfl ?_
  intro p e s m args below meth c s₁ B hml hv
  obtain ⟨rfl, hsz, hP, hK, hD0, hE⟩ := hv
  have hx := B.exec
  have hb := B.bytes
  have hr := B.returns
  have hown : s.vm.findClass RX1 = some m.cls := findClass_of_methodNamed B.named
  have hlocks := B.notSynchronized
  subst hsz
  have hD := hD0.self (sz := s.heap.size)
  generalize hAe : va_A (wX c0 a (n, wk, sd, bt, lt, lo, rk, ad, vl, bg, cm, sp, gd, rf, ct, rd, sm, js, sn, wl)) s.heap.size = A at hD hE ⊢
  have hts := hE.ts (args := ([.ref (a 1), .int k, .int st] : List Value).toArray)
  have hA : ∀ q : Nat, s.heap.size ≤ q → A q := fun q h => by rw [← hAe]; exact Or.inr h
  have hS : va_S A s.heap s.heap [] := va_S.rf
  have hP : va_P (dC, dI) vwCl (wX c0 a (n, wk, sd, bt, lt, lo, rk, ad, vl, bg, cm, sp, gd, rf, ct, rd, sm, js, sn, wl)) s.heap := hP
  refine gz (P := fun Z => W p l e _ s m _ below meth c _ _ _ _ Z _) (fun Z hZ => ?_)
  show W p l e _ s m _ below meth c _ _ _ _ Z _
  have hl := lv_entry ([.ref (a 1), .int k, .int st]) (n := 6) (Nat.le_of_ble_eq_true rfl)
  rw [lg_entry_eq]
  generalize (lg_sl ([.ref (a 1), .int k, .int st]) ++ List.replicate (6 - (lg_sl ([.ref (a 1), .int k, .int st])).length) Slot.unset).toArray = ls at hl ⊢
  have hl : lv_has ls 6 [(0, .ref (a 1)), (1, .int k), (2, .int st)] := hl
  refine lv_ldc2 hx hb (own := RX1) (v := 2654435761) hown (hE.t m_332 rfl) dX1_behind_0 ?_
  refine lv_aload_n hx hb dX1_behind_3 rfl (lv_at hl 0 rfl) ?_
  refine va_get (D := (dC, dI)) (ci := 1) (v := .ref (a 5)) (C := RX1) (T := TX1) (N := 6) hx hb hts inX1 hown hK hP 1 rfl rfl 2 (by decide) (hE.t m_62 rfl) (fun _ h9 => h9) rfl dX1_behind_4 ?_
  refine lv_iload_n hx hb dX1_behind_7 rfl (lv_at hl 1 rfl) ?_
  refine va_iald hx hb hK hP 5 0 rfl rfl hk dX1_behind_8 ?_
  refine lv_i2l hx hb dX1_behind_9 (v := (sd k.toNatClampNeg).toInt64) rfl ?_
  refine lv_lmul hx hb dX1_behind_10 ?_
  refine lv_iload_n hx hb dX1_behind_11 rfl (lv_at hl 1 rfl) ?_
  refine lv_i2l hx hb dX1_behind_12 (v := k.toInt64) rfl ?_
  refine lv_ladd hx hb dX1_behind_13 ?_
  refine lv_lstore_n (lv' := [(3, .long ((2654435761 * ((sd k.toNatClampNeg).toInt64)) + k.toInt64)), (0, .ref (a 1)), (1, .int k), (2, .int st)]) hx hb dX1_behind_14 rfl hl (by decide) rfl (fun ls hl => ?_)
  refine lv_iconst (v := 0) hx hb dX1_behind_15 (by decide) ?_
  refine lv_istore (lv' := [(5, .int 0), (3, .long ((2654435761 * ((sd k.toNatClampNeg).toInt64)) + k.toInt64)), (0, .ref (a 1)), (1, .int k), (2, .int st)]) hx hb dX1_behind_16 hl (by decide) rfl (fun ls hl => ?_)
  have hloop18 : ∀ (fu : Nat) (i : Nat), st.toNatClampNeg + 1 ≤ i + fu → i ≤ st.toNatClampNeg → ∀ (H : Heap) (locs : List Loc) (ls : Array Slot), va_P (dC, dI) vwCl (wX c0 a (n, wk, sd, bt, lt, lo, rk, ad, vl, bg, cm, sp, gd, rf, ct, rd, sm, js, sn, wl)) H → va_D A (wX c0 a (n, wk, sd, bt, lt, lo, rk, ad, vl, bg, cm, sp, gd, rf, ct, rd, sm, js, sn, wl)) → va_S A s.heap H locs → lv_has ls 6 [(0, .ref (a 1)), (1, .int k), (2, .int st), (3, .long (chx (sd k.toNatClampNeg) k i)), (5, .int (nI i))] → W p l e (headSpec wsX1_behind ({ frames := 0, cells := 0, slots := 0, locals := 0 })).room s m ([.ref (a 1), .int k, .int st] : List Value).toArray below meth c H locs 0 0 Z (F0 m 18 ls []) := by
    intro fu
    induction fu with
    | zero =>
      intro i hfu hi
      exact absurd hfu (by omega)
    | succ fu ih18 =>
      intro i hfu hi H locs ls hP hD hS hl
      refine lv_iload hx hb dX1_behind_18 (lv_at hl 4 rfl) ?_
      refine lv_iload_n hx hb dX1_behind_20 rfl (lv_at hl 2 rfl) ?_
      refine lv_icmp_ge (tgt := 40) hx hb dX1_behind_21 (by decide) (fun c_21 => ?_) (fun c_21 => ?_)
      · skip
        have hie : i = st.toNatClampNeg := cl_eq hi c_21
        rw [hie] at hl
        refine lv_lload_n hx hb dX1_behind_40 rfl (lv_at hl 3 rfl) ?_
        rw [hZ]
        exact W.lret (v := chx (sd k.toNatClampNeg) k st.toNatClampNeg) hx hb hr (fun t ht hW => ⟨⟨chx (sd k.toNatClampNeg) k st.toNatClampNeg, (n, wk, sd, bt, lt, lo, rk, ad, vl, bg, cm, sp, gd, rf, ct, rd, sm, js, sn, wl), rfl, ⟨rfl, rfl⟩, by rw [ht]; exact hP, va_K.moved hW.alike hK, hD⟩, hS.F ht⟩) hS.2.2 dX1_behind_41
      · skip
        have hlt : i < st.toNatClampNeg := cl_lt hi c_21
        refine lv_ldc2 hx hb (own := RX1) (v := 6364136223846793005) hown (hE.t m_333 rfl) dX1_behind_24 ?_
        refine lv_lload_n hx hb dX1_behind_27 rfl (lv_at hl 3 rfl) ?_
        refine lv_lmul hx hb dX1_behind_28 ?_
        refine lv_ldc2 hx hb (own := RX1) (v := 1442695040888963407) hown (hE.t m_334 rfl) dX1_behind_29 ?_
        refine lv_ladd hx hb dX1_behind_32 ?_
        refine lv_lstore_n (lv' := [(3, .long ((6364136223846793005 * (chx (sd k.toNatClampNeg) k i)) + 1442695040888963407)), (0, .ref (a 1)), (1, .int k), (2, .int st), (5, .int (nI i))]) hx hb dX1_behind_33 rfl hl (by decide) rfl (fun ls hl => ?_)
        refine lv_iinc (v := nI (i + 1)) (lv' := [(5, .int (nI (i + 1))), (3, .long ((6364136223846793005 * (chx (sd k.toNatClampNeg) k i)) + 1442695040888963407)), (0, .ref (a 1)), (1, .int k), (2, .int st)]) hx hb dX1_behind_34 hl (k := 4) rfl (by rw [← nI_1]; rfl) (by decide) rfl (fun ls hl => ?_)
        refine lv_goto (tgt := 18) hx hb dX1_behind_37 (by decide) ?_
        exact ih18 (i + 1) (by omega) (by omega) _ _ _ hP hD hS (lv_sub hl [2, 3, 4, 1, 0] rfl)
  have hl0 : lv_has ls 6 [(0, .ref (a 1)), (1, .int k), (2, .int st), (3, .long (chx (sd k.toNatClampNeg) k 0)), (5, .int (nI 0))] := by
    rw [nI_0]; exact lv_sub hl [2, 3, 4, 1, 0] rfl
  exact hloop18 (st.toNatClampNeg + 1) 0 (by omega) (by omega) _ _ _ hP hD hS hl0
set_option maxHeartbeats 4000000 in
set_option maxRecDepth 100000 in
/-- Shares.lastValue(k) -/
theorem c_X1_lastValue (l : Launch) (dC : Nat → ClassId) (dI : Nat → Nat → Nat) (c0 : ClassId) (a : Nat → Nat) (sz : Nat) (n : Nat) (wk sd bt lt lo rk ad vl bg cm : Nat → Int32) (sp gd rf : Int32) (ct : Nat) (rd : Int32) (sm : Int64) (js sn wl : Int32) (k : Int32) (hk : vp_in k n) : Met l yX1_lastValue wsX1_lastValue ({ frames := 1, cells := 0, slots := 0, locals := 25 }) (va_Pc [.ref (a 1), .int k] (PX dC dI c0 a (n, wk, sd, bt, lt, lo, rk, ad, vl, bg, cm, sp, gd, rf, ct, rd, sm, js, sn, wl) sz)) (va_Qi (fun (r : Int32) (u : xS) => u = (n, wk, sd, bt, lt, lo, rk, ad, vl, bg, cm, sp, gd, rf, ct, rd, sm, js, sn, wl) ∧ r = lastV wk sd k) (BX dC dI c0 a (va_A (wX c0 a (n, wk, sd, bt, lt, lo, rk, ad, vl, bg, cm, sp, gd, rf, ct, rd, sm, js, sn, wl)) sz)) (va_A (wX c0 a (n, wk, sd, bt, lt, lo, rk, ad, vl, bg, cm, sp, gd, rf, ct, rd, sm, js, sn, wl)) sz)) 0 0 (va_A (wX c0 a (n, wk, sd, bt, lt, lo, rk, ad, vl, bg, cm, sp, gd, rf, ct, rd, sm, js, sn, wl)) sz) := by
  refine Met.ofW (cc := cX1_lastValue) (maxL := 2) (ret := (some .int)) (by decide) rfl ?_
  intro p e s m args below meth c s₁ B hml hv
  obtain ⟨rfl, hsz, hP, hK, hD0, hE⟩ := hv
  have hx := B.exec
  have hb := B.bytes
  have hr := B.returns
  have hown : s.vm.findClass RX1 = some m.cls := findClass_of_methodNamed B.named
  have hlocks := B.notSynchronized
  subst hsz
  have hD := hD0.self (sz := s.heap.size)
  generalize hAe : va_A (wX c0 a (n, wk, sd, bt, lt, lo, rk, ad, vl, bg, cm, sp, gd, rf, ct, rd, sm, js, sn, wl)) s.heap.size = A at hD hE ⊢
  have hts := hE.ts (args := ([.ref (a 1), .int k] : List Value).toArray)
  have hA : ∀ q : Nat, s.heap.size ≤ q → A q := fun q h => by rw [← hAe]; exact Or.inr h
  have hS : va_S A s.heap s.heap [] := va_S.rf
  have hP : va_P (dC, dI) vwCl (wX c0 a (n, wk, sd, bt, lt, lo, rk, ad, vl, bg, cm, sp, gd, rf, ct, rd, sm, js, sn, wl)) s.heap := hP
  have hl := lv_entry ([.ref (a 1), .int k]) (n := 2) (Nat.le_of_ble_eq_true rfl)
  rw [lg_entry_eq]
  generalize (lg_sl ([.ref (a 1), .int k]) ++ List.replicate (2 - (lg_sl ([.ref (a 1), .int k])).length) Slot.unset).toArray = ls at hl ⊢
  have hl : lv_has ls 2 [(0, .ref (a 1)), (1, .int k)] := hl
  refine lv_aload_n hx hb dX1_lastValue_0 rfl (lv_at hl 0 rfl) ?_
  refine lv_iload_n hx hb dX1_lastValue_1 rfl (lv_at hl 1 rfl) ?_
  refine lv_aload_n hx hb dX1_lastValue_2 rfl (lv_at hl 0 rfl) ?_
  refine va_get (D := (dC, dI)) (ci := 1) (v := .ref (a 4)) (C := RX1) (T := TX1) (N := 6) hx hb hts inX1 hown hK hP 1 rfl rfl 1 (by decide) (hE.t m_60 rfl) (fun _ h9 => h9) rfl dX1_lastValue_3 ?_
  refine lv_iload_n hx hb dX1_lastValue_6 rfl (lv_at hl 1 rfl) ?_
  refine va_iald hx hb hK hP 4 0 rfl rfl hk dX1_lastValue_7 ?_
  have hFc := fre hD hS hA
  refine va_calll (va_runV (As := [.int k, .int (wk k.toNatClampNeg)]) (rest := []) ⟨hx, hb, hml, hown, hts⟩ (c_X1_behind l dC dI c0 a _ n wk sd bt lt lo rk ad vl bg cm sp gd rf ct rd sm js sn wl k (wk k.toNatClampNeg) hk) (cwV 2 hts gX1_lastValue_X1_behind rfl rfl rfl (by decide +kernel) ⟨(Nat.le_of_ble_eq_true rfl), (Nat.le_of_ble_eq_true rfl)⟩) ⟨PX_blind, va_recv hK hP (ci := 1) (q0 := 1) rfl rfl, PX_give hP hK hD hE hS hFc⟩ rfl rfl hl.1 rfl (lv_room (Nat.le_of_ble_eq_true rfl)) dX1_lastValue_8 ⟨by decide, by decide⟩) hS (fun q _ h => hFc q h) hFc (fun r_8 u t H1 locs ht hvm hw hB hz1 hk1 hS => ?_)
  obtain ⟨rfl, rfl⟩ := hw
  obtain ⟨hP, hD⟩ := PX_take ht hFc hB
  generalize H1 = H at hP hS ⊢
  have hP : va_P (dC, dI) vwCl (wX c0 a (n, wk, sd, bt, lt, lo, rk, ad, vl, bg, cm, sp, gd, rf, ct, rd, sm, js, sn, wl)) H := hP
  have hD : va_D A (wX c0 a (n, wk, sd, bt, lt, lo, rk, ad, vl, bg, cm, sp, gd, rf, ct, rd, sm, js, sn, wl)) := hD
  refine lv_bipush (v := 33) hx hb dX1_lastValue_11 (by decide) ?_
  refine lv_lushr hx hb dX1_lastValue_13 (v := ((chx (sd k.toNatClampNeg) k (wk k.toNatClampNeg).toNatClampNeg).toUInt64 >>> ((33 : Int32).toInt64.toUInt64 &&& Int64.toUInt64 63)).toInt64) rfl ?_
  refine lv_l2i hx hb dX1_lastValue_14 (v := (((chx (sd k.toNatClampNeg) k (wk k.toNatClampNeg).toNatClampNeg).toUInt64 >>> ((33 : Int32).toInt64.toUInt64 &&& Int64.toUInt64 63)).toInt64).toInt32) rfl ?_
  exact W.iret (v := (((chx (sd k.toNatClampNeg) k (wk k.toNatClampNeg).toNatClampNeg).toUInt64 >>> ((33 : Int32).toInt64.toUInt64 &&& Int64.toUInt64 63)).toInt64).toInt32) hx hb hr (fun t ht hW => ⟨⟨(((chx (sd k.toNatClampNeg) k (wk k.toNatClampNeg).toNatClampNeg).toUInt64 >>> ((33 : Int32).toInt64.toUInt64 &&& Int64.toUInt64 63)).toInt64).toInt32, (n, wk, sd, bt, lt, lo, rk, ad, vl, bg, cm, sp, gd, rf, ct, rd, sm, js, sn, wl), rfl, ⟨rfl, rfl⟩, by rw [ht]; exact hP, va_K.moved hW.alike hK, hD⟩, hS.F ht⟩) hS.2.2 dX1_lastValue_15
set_option maxHeartbeats 4000000 in
set_option maxRecDepth 100000 in
/-- Shares.settles(k, v) -/
theorem c_X1_settles (l : Launch) (dC : Nat → ClassId) (dI : Nat → Nat → Nat) (c0 : ClassId) (a : Nat → Nat) (sz : Nat) (n : Nat) (wk sd bt lt lo rk ad vl bg cm : Nat → Int32) (sp gd rf : Int32) (ct : Nat) (rd : Int32) (sm : Int64) (js sn wl : Int32) (k : Int32) (v : Int32) (hk : vp_in k n) : Met l yX1_settles wsX1_settles ({ frames := 0, cells := 0, slots := 0, locals := 0 }) (va_Pc [.ref (a 1), .int k, .int v] (PX dC dI c0 a (n, wk, sd, bt, lt, lo, rk, ad, vl, bg, cm, sp, gd, rf, ct, rd, sm, js, sn, wl) sz)) (va_Qi (fun (r : Int32) (u : xS) => u = (n, wk, sd, bt, lt, lo, rk, ad, vl, bg, cm, sp, gd, rf, ct, rd, sm, js, sn, wl) ∧ r = stl (bt k.toNatClampNeg) v) (BX dC dI c0 a (va_A (wX c0 a (n, wk, sd, bt, lt, lo, rk, ad, vl, bg, cm, sp, gd, rf, ct, rd, sm, js, sn, wl)) sz)) (va_A (wX c0 a (n, wk, sd, bt, lt, lo, rk, ad, vl, bg, cm, sp, gd, rf, ct, rd, sm, js, sn, wl)) sz)) 0 0 (va_A (wX c0 a (n, wk, sd, bt, lt, lo, rk, ad, vl, bg, cm, sp, gd, rf, ct, rd, sm, js, sn, wl)) sz) := by
  refine Met.ofW (cc := cX1_settles) (maxL := 4) (ret := (some .boolean)) (by decide) rfl ?_
  intro p e s m args below meth c s₁ B hml hv
  obtain ⟨rfl, hsz, hP, hK, hD0, hE⟩ := hv
  have hx := B.exec
  have hb := B.bytes
  have hr := B.returns
  have hown : s.vm.findClass RX1 = some m.cls := findClass_of_methodNamed B.named
  have hlocks := B.notSynchronized
  subst hsz
  have hD := hD0.self (sz := s.heap.size)
  generalize hAe : va_A (wX c0 a (n, wk, sd, bt, lt, lo, rk, ad, vl, bg, cm, sp, gd, rf, ct, rd, sm, js, sn, wl)) s.heap.size = A at hD hE ⊢
  have hts := hE.ts (args := ([.ref (a 1), .int k, .int v] : List Value).toArray)
  have hA : ∀ q : Nat, s.heap.size ≤ q → A q := fun q h => by rw [← hAe]; exact Or.inr h
  have hS : va_S A s.heap s.heap [] := va_S.rf
  have hP : va_P (dC, dI) vwCl (wX c0 a (n, wk, sd, bt, lt, lo, rk, ad, vl, bg, cm, sp, gd, rf, ct, rd, sm, js, sn, wl)) s.heap := hP
  have hl := lv_entry ([.ref (a 1), .int k, .int v]) (n := 4) (Nat.le_of_ble_eq_true rfl)
  rw [lg_entry_eq]
  generalize (lg_sl ([.ref (a 1), .int k, .int v]) ++ List.replicate (4 - (lg_sl ([.ref (a 1), .int k, .int v])).length) Slot.unset).toArray = ls at hl ⊢
  have hl : lv_has ls 4 [(0, .ref (a 1)), (1, .int k), (2, .int v)] := hl
  refine lv_iconst (v := 1) hx hb dX1_settles_0 (by decide) ?_
  refine lv_aload_n hx hb dX1_settles_1 rfl (lv_at hl 0 rfl) ?_
  refine va_get (D := (dC, dI)) (ci := 1) (v := .ref (a 6)) (C := RX1) (T := TX1) (N := 6) hx hb hts inX1 hown hK hP 1 rfl rfl 3 (by decide) (hE.t m_64 rfl) (fun _ h9 => h9) rfl dX1_settles_2 ?_
  refine lv_iload_n hx hb dX1_settles_5 rfl (lv_at hl 1 rfl) ?_
  refine va_iald hx hb hK hP 6 0 rfl rfl hk dX1_settles_6 ?_
  refine lv_ishl hx hb dX1_settles_7 ?_
  refine lv_iconst (v := 1) hx hb dX1_settles_8 (by decide) ?_
  refine lv_isub hx hb dX1_settles_9 ?_
  refine lv_istore_n (lv' := [(3, .int ((1 <<< ((bt k.toNatClampNeg) &&& 31)) - 1)), (0, .ref (a 1)), (1, .int k), (2, .int v)]) hx hb dX1_settles_10 rfl hl (by decide) rfl (fun ls hl => ?_)
  refine lv_aload_n hx hb dX1_settles_11 rfl (lv_at hl 1 rfl) ?_
  refine va_get (D := (dC, dI)) (ci := 1) (v := .ref (a 6)) (C := RX1) (T := TX1) (N := 6) hx hb hts inX1 hown hK hP 1 rfl rfl 3 (by decide) (hE.t m_64 rfl) (fun _ h9 => h9) rfl dX1_settles_12 ?_
  refine lv_iload_n hx hb dX1_settles_15 rfl (lv_at hl 2 rfl) ?_
  refine va_iald hx hb hK hP 6 0 rfl rfl hk dX1_settles_16 ?_
  refine lv_if_eq (tgt := 30) hx hb dX1_settles_17 (by decide) (fun c_17 => ?_) (fun c_17 => ?_)
  · skip
    refine lv_iconst (v := 0) hx hb dX1_settles_30 (by decide) ?_
    exact W.zret (v := 0) hx hb hr rfl (fun t ht hW => ⟨⟨0, (n, wk, sd, bt, lt, lo, rk, ad, vl, bg, cm, sp, gd, rf, ct, rd, sm, js, sn, wl), rfl, ⟨rfl, (by simp only [stl, eq_true c_17, ↓reduceIte])⟩, by rw [ht]; exact hP, va_K.moved hW.alike hK, hD⟩, hS.F ht⟩) hS.2.2 dX1_settles_31
  · skip
    refine lv_iload_n hx hb dX1_settles_20 rfl (lv_at hl 3 rfl) ?_
    refine lv_iload_n hx hb dX1_settles_21 rfl (lv_at hl 0 rfl) ?_
    refine lv_iand hx hb dX1_settles_22 ?_
    refine lv_if_ne (tgt := 30) hx hb dX1_settles_23 (by decide) (fun c_23 => ?_) (fun c_23 => ?_)
    · skip
      refine lv_iconst (v := 0) hx hb dX1_settles_30 (by decide) ?_
      exact W.zret (v := 0) hx hb hr rfl (fun t ht hW => ⟨⟨0, (n, wk, sd, bt, lt, lo, rk, ad, vl, bg, cm, sp, gd, rf, ct, rd, sm, js, sn, wl), rfl, ⟨rfl, (by simp only [stl, c_17, c_23, ↓reduceIte])⟩, by rw [ht]; exact hP, va_K.moved hW.alike hK, hD⟩, hS.F ht⟩) hS.2.2 dX1_settles_31
    · skip
      refine lv_iconst (v := 1) hx hb dX1_settles_26 (by decide) ?_
      refine lv_goto (tgt := 31) hx hb dX1_settles_27 (by decide) ?_
      exact W.zret (v := 1) hx hb hr rfl (fun t ht hW => ⟨⟨1, (n, wk, sd, bt, lt, lo, rk, ad, vl, bg, cm, sp, gd, rf, ct, rd, sm, js, sn, wl), rfl, ⟨rfl, (by simp only [stl, c_17, eq_true c_23, ↓reduceIte])⟩, by rw [ht]; exact hP, va_K.moved hW.alike hK, hD⟩, hS.F ht⟩) hS.2.2 dX1_settles_31
set_option maxHeartbeats 4000000 in
set_option maxRecDepth 100000 in
/-- Shares.allLosses() -/
theorem c_X1_allLosses (l : Launch) (dC : Nat → ClassId) (dI : Nat → Nat → Nat) (c0 : ClassId) (a : Nat → Nat) (sz : Nat) (n : Nat) (wk sd bt lt lo rk ad vl bg cm : Nat → Int32) (sp gd rf : Int32) (ct : Nat) (rd : Int32) (sm : Int64) (js sn wl : Int32) (hn : n ≤ 40) : Met l yX1_allLosses wsX1_allLosses ({ frames := 0, cells := 0, slots := 0, locals := 0 }) (va_Pc [.ref (a 1)] (PX dC dI c0 a (n, wk, sd, bt, lt, lo, rk, ad, vl, bg, cm, sp, gd, rf, ct, rd, sm, js, sn, wl) sz)) (va_Qi (fun (r : Int32) (u : xS) => u = (n, wk, sd, bt, lt, lo, rk, ad, vl, bg, cm, sp, gd, rf, ct, rd, sm, js, sn, wl) ∧ r = sumL lo n) (BX dC dI c0 a (va_A (wX c0 a (n, wk, sd, bt, lt, lo, rk, ad, vl, bg, cm, sp, gd, rf, ct, rd, sm, js, sn, wl)) sz)) (va_A (wX c0 a (n, wk, sd, bt, lt, lo, rk, ad, vl, bg, cm, sp, gd, rf, ct, rd, sm, js, sn, wl)) sz)) 0 0 (va_A (wX c0 a (n, wk, sd, bt, lt, lo, rk, ad, vl, bg, cm, sp, gd, rf, ct, rd, sm, js, sn, wl)) sz) := by
  refine Met.ofW (cc := cX1_allLosses) (maxL := 3) (ret := (some .int)) (by decide) rfl ?_
  intro p e s m args below meth c s₁ B hml hv
  obtain ⟨rfl, hsz, hP, hK, hD0, hE⟩ := hv
  have hx := B.exec
  have hb := B.bytes
  have hr := B.returns
  have hown : s.vm.findClass RX1 = some m.cls := findClass_of_methodNamed B.named
  have hlocks := B.notSynchronized
  subst hsz
  have hD := hD0.self (sz := s.heap.size)
  generalize hAe : va_A (wX c0 a (n, wk, sd, bt, lt, lo, rk, ad, vl, bg, cm, sp, gd, rf, ct, rd, sm, js, sn, wl)) s.heap.size = A at hD hE ⊢
  have hts := hE.ts (args := ([.ref (a 1)] : List Value).toArray)
  have hA : ∀ q : Nat, s.heap.size ≤ q → A q := fun q h => by rw [← hAe]; exact Or.inr h
  have hS : va_S A s.heap s.heap [] := va_S.rf
  have hP : va_P (dC, dI) vwCl (wX c0 a (n, wk, sd, bt, lt, lo, rk, ad, vl, bg, cm, sp, gd, rf, ct, rd, sm, js, sn, wl)) s.heap := hP
  refine gz (P := fun Z => W p l e _ s m _ below meth c _ _ _ _ Z _) (fun Z hZ => ?_)
  show W p l e _ s m _ below meth c _ _ _ _ Z _
  have hl := lv_entry ([.ref (a 1)]) (n := 3) (Nat.le_of_ble_eq_true rfl)
  rw [lg_entry_eq]
  generalize (lg_sl ([.ref (a 1)]) ++ List.replicate (3 - (lg_sl ([.ref (a 1)])).length) Slot.unset).toArray = ls at hl ⊢
  have hl : lv_has ls 3 [(0, .ref (a 1))] := hl
  refine lv_iconst (v := 0) hx hb dX1_allLosses_0 (by decide) ?_
  refine lv_istore_n (lv' := [(1, .int 0), (0, .ref (a 1))]) hx hb dX1_allLosses_1 rfl hl (by decide) rfl (fun ls hl => ?_)
  refine lv_iconst (v := 0) hx hb dX1_allLosses_2 (by decide) ?_
  refine lv_istore_n (lv' := [(2, .int 0), (1, .int 0), (0, .ref (a 1))]) hx hb dX1_allLosses_3 rfl hl (by decide) rfl (fun ls hl => ?_)
  have hloop4 : ∀ (fu : Nat) (i : Nat), n + 1 ≤ i + fu → i ≤ n → ∀ (H : Heap) (locs : List Loc) (ls : Array Slot), va_P (dC, dI) vwCl (wX c0 a (n, wk, sd, bt, lt, lo, rk, ad, vl, bg, cm, sp, gd, rf, ct, rd, sm, js, sn, wl)) H → va_D A (wX c0 a (n, wk, sd, bt, lt, lo, rk, ad, vl, bg, cm, sp, gd, rf, ct, rd, sm, js, sn, wl)) → va_S A s.heap H locs → lv_has ls 3 [(0, .ref (a 1)), (1, .int (sumL lo i)), (2, .int (nI i))] → W p l e (headSpec wsX1_allLosses ({ frames := 0, cells := 0, slots := 0, locals := 0 })).room s m ([.ref (a 1)] : List Value).toArray below meth c H locs 0 0 Z (F0 m 4 ls []) := by
    intro fu
    induction fu with
    | zero =>
      intro i hfu hi
      exact absurd hfu (by omega)
    | succ fu ih4 =>
      intro i hfu hi H locs ls hP hD hS hl
      refine lv_iload_n hx hb dX1_allLosses_4 rfl (lv_at hl 2 rfl) ?_
      refine lv_aload_n hx hb dX1_allLosses_5 rfl (lv_at hl 0 rfl) ?_
      refine va_get (D := (dC, dI)) (ci := 1) (v := .int (nI n)) (C := RX1) (T := TX1) (N := 6) hx hb hts inX1 hown hK hP 1 rfl rfl 0 (by decide) (hE.t m_57 rfl) (fun _ h9 => h9) rfl dX1_allLosses_6 ?_
      refine lv_icmp_ge (tgt := 27) hx hb dX1_allLosses_9 (by decide) (fun c_9 => ?_) (fun c_9 => ?_)
      · skip
        have hie : i = n := by
          have h9 := (nI_leI (a := n) (b := i) (by omega) (by omega)).mp c_9
          omega
        rw [hie] at hl
        refine lv_iload_n hx hb dX1_allLosses_27 rfl (lv_at hl 1 rfl) ?_
        rw [hZ]
        exact W.iret (v := sumL lo n) hx hb hr (fun t ht hW => ⟨⟨sumL lo n, (n, wk, sd, bt, lt, lo, rk, ad, vl, bg, cm, sp, gd, rf, ct, rd, sm, js, sn, wl), rfl, ⟨rfl, rfl⟩, by rw [ht]; exact hP, va_K.moved hW.alike hK, hD⟩, hS.F ht⟩) hS.2.2 dX1_allLosses_28
      · skip
        have hlt : i < n := by
          rcases Nat.lt_or_ge i n with h9 | h9
          · exact h9
          · exact absurd (nI_le h9 (by omega)) c_9
        refine lv_iload_n hx hb dX1_allLosses_12 rfl (lv_at hl 1 rfl) ?_
        refine lv_aload_n hx hb dX1_allLosses_13 rfl (lv_at hl 0 rfl) ?_
        refine va_get (D := (dC, dI)) (ci := 1) (v := .ref (a 8)) (C := RX1) (T := TX1) (N := 6) hx hb hts inX1 hown hK hP 1 rfl rfl 5 (by decide) (hE.t m_68 rfl) (fun _ h9 => h9) rfl dX1_allLosses_14 ?_
        refine lv_iload_n hx hb dX1_allLosses_17 rfl (lv_at hl 2 rfl) ?_
        refine va_iald hx hb hK hP 8 0 rfl rfl (vp_in_nI (by omega) (by omega)) dX1_allLosses_18 ?_
        rw [nI_clamp (n := i) (by omega)]
        refine lv_iadd hx hb dX1_allLosses_19 ?_
        refine lv_istore_n (lv' := [(1, .int ((sumL lo i) + (lo i))), (0, .ref (a 1)), (2, .int (nI i))]) hx hb dX1_allLosses_20 rfl hl (by decide) rfl (fun ls hl => ?_)
        refine lv_iinc (v := nI (i + 1)) (lv' := [(2, .int (nI (i + 1))), (1, .int ((sumL lo i) + (lo i))), (0, .ref (a 1))]) hx hb dX1_allLosses_21 hl (k := 2) rfl (by rw [← nI_1]; rfl) (by decide) rfl (fun ls hl => ?_)
        refine lv_goto (tgt := 4) hx hb dX1_allLosses_24 (by decide) ?_
        exact ih4 (i + 1) (by omega) (by omega) _ _ _ hP hD hS (lv_sub hl [2, 1, 0] rfl)
  have hl0 : lv_has ls 3 [(0, .ref (a 1)), (1, .int (sumL lo 0)), (2, .int (nI 0))] := by
    rw [nI_0]; exact lv_sub hl [2, 1, 0] rfl
  exact hloop4 (n + 1) 0 (by omega) (by omega) _ _ _ hP hD hS hl0
set_option maxHeartbeats 4000000 in
set_option maxRecDepth 100000 in
/-- Shares.stepsWithLosses(k) -/
theorem c_X1_stepsWithLosses (l : Launch) (dC : Nat → ClassId) (dI : Nat → Nat → Nat) (c0 : ClassId) (a : Nat → Nat) (sz : Nat) (n : Nat) (wk sd bt lt lo rk ad vl bg cm : Nat → Int32) (sp gd rf : Int32) (ct : Nat) (rd : Int32) (sm : Int64) (js sn wl : Int32) (k : Int32) (hk : vp_in k n) : Met l yX1_stepsWithLosses wsX1_stepsWithLosses ({ frames := 1, cells := 0, slots := 0, locals := 20 }) (va_Pc [.ref (a 1), .int k] (PX dC dI c0 a (n, wk, sd, bt, lt, lo, rk, ad, vl, bg, cm, sp, gd, rf, ct, rd, sm, js, sn, wl) sz)) (va_Qi (fun (r : Int32) (u : xS) => u = (n, wk, sd, bt, lt, lo, rk, ad, vl, bg, cm, sp, gd, rf, ct, rd, sm, js, sn, wl) ∧ r = swl wk lt lo k) (BX dC dI c0 a (va_A (wX c0 a (n, wk, sd, bt, lt, lo, rk, ad, vl, bg, cm, sp, gd, rf, ct, rd, sm, js, sn, wl)) sz)) (va_A (wX c0 a (n, wk, sd, bt, lt, lo, rk, ad, vl, bg, cm, sp, gd, rf, ct, rd, sm, js, sn, wl)) sz)) 0 0 (va_A (wX c0 a (n, wk, sd, bt, lt, lo, rk, ad, vl, bg, cm, sp, gd, rf, ct, rd, sm, js, sn, wl)) sz) := by
  refine Met.ofW (cc := cX1_stepsWithLosses) (maxL := 2) (ret := (some .int)) (by decide) rfl ?_
  intro p e s m args below meth c s₁ B hml hv
  obtain ⟨rfl, hsz, hP, hK, hD0, hE⟩ := hv
  have hx := B.exec
  have hb := B.bytes
  have hr := B.returns
  have hown : s.vm.findClass RX1 = some m.cls := findClass_of_methodNamed B.named
  have hlocks := B.notSynchronized
  subst hsz
  have hD := hD0.self (sz := s.heap.size)
  generalize hAe : va_A (wX c0 a (n, wk, sd, bt, lt, lo, rk, ad, vl, bg, cm, sp, gd, rf, ct, rd, sm, js, sn, wl)) s.heap.size = A at hD hE ⊢
  have hts := hE.ts (args := ([.ref (a 1), .int k] : List Value).toArray)
  have hA : ∀ q : Nat, s.heap.size ≤ q → A q := fun q h => by rw [← hAe]; exact Or.inr h
  have hS : va_S A s.heap s.heap [] := va_S.rf
  have hP : va_P (dC, dI) vwCl (wX c0 a (n, wk, sd, bt, lt, lo, rk, ad, vl, bg, cm, sp, gd, rf, ct, rd, sm, js, sn, wl)) s.heap := hP
  have hl := lv_entry ([.ref (a 1), .int k]) (n := 2) (Nat.le_of_ble_eq_true rfl)
  rw [lg_entry_eq]
  generalize (lg_sl ([.ref (a 1), .int k]) ++ List.replicate (2 - (lg_sl ([.ref (a 1), .int k])).length) Slot.unset).toArray = ls at hl ⊢
  have hl : lv_has ls 2 [(0, .ref (a 1)), (1, .int k)] := hl
  refine lv_aload_n hx hb dX1_stepsWithLosses_0 rfl (lv_at hl 0 rfl) ?_
  refine va_get (D := (dC, dI)) (ci := 1) (v := .ref (a 4)) (C := RX1) (T := TX1) (N := 6) hx hb hts inX1 hown hK hP 1 rfl rfl 1 (by decide) (hE.t m_60 rfl) (fun _ h9 => h9) rfl dX1_stepsWithLosses_1 ?_
  refine lv_iload_n hx hb dX1_stepsWithLosses_4 rfl (lv_at hl 1 rfl) ?_
  refine va_iald hx hb hK hP 4 0 rfl rfl hk dX1_stepsWithLosses_5 ?_
  refine lv_aload_n hx hb dX1_stepsWithLosses_6 rfl (lv_at hl 0 rfl) ?_
  refine va_get (D := (dC, dI)) (ci := 1) (v := .ref (a 8)) (C := RX1) (T := TX1) (N := 6) hx hb hts inX1 hown hK hP 1 rfl rfl 5 (by decide) (hE.t m_68 rfl) (fun _ h9 => h9) rfl dX1_stepsWithLosses_7 ?_
  refine lv_iload_n hx hb dX1_stepsWithLosses_10 rfl (lv_at hl 1 rfl) ?_
  refine va_iald hx hb hK hP 8 0 rfl rfl hk dX1_stepsWithLosses_11 ?_
  refine lv_aload_n hx hb dX1_stepsWithLosses_12 rfl (lv_at hl 0 rfl) ?_
  refine va_get (D := (dC, dI)) (ci := 1) (v := .ref (a 7)) (C := RX1) (T := TX1) (N := 6) hx hb hts inX1 hown hK hP 1 rfl rfl 4 (by decide) (hE.t m_66 rfl) (fun _ h9 => h9) rfl dX1_stepsWithLosses_13 ?_
  refine lv_iload_n hx hb dX1_stepsWithLosses_16 rfl (lv_at hl 1 rfl) ?_
  refine va_iald hx hb hK hP 7 0 rfl rfl hk dX1_stepsWithLosses_17 ?_
  refine lv_aload_n hx hb dX1_stepsWithLosses_18 rfl (lv_at hl 0 rfl) ?_
  refine va_get (D := (dC, dI)) (ci := 1) (v := .ref (a 4)) (C := RX1) (T := TX1) (N := 6) hx hb hts inX1 hown hK hP 1 rfl rfl 1 (by decide) (hE.t m_60 rfl) (fun _ h9 => h9) rfl dX1_stepsWithLosses_19 ?_
  refine lv_iload_n hx hb dX1_stepsWithLosses_22 rfl (lv_at hl 1 rfl) ?_
  refine va_iald hx hb hK hP 4 0 rfl rfl hk dX1_stepsWithLosses_23 ?_
  refine va_mmin hx hb (hml.trans hl.1.symm) hown (hE.t m_339 rfl) (hE.t m_43 rfl) (hE.t m_22 rfl) (hE.t m_44 rfl) (Nat.le_of_ble_eq_true rfl) (Nat.le_of_ble_eq_true rfl) (by decide) (by decide) dX1_stepsWithLosses_24 ?_
  refine lv_imul hx hb dX1_stepsWithLosses_27 ?_
  refine lv_iadd hx hb dX1_stepsWithLosses_28 ?_
  exact W.iret (v := (wk k.toNatClampNeg) + ((lo k.toNatClampNeg) * (if (wk k.toNatClampNeg) < (lt k.toNatClampNeg) then (wk k.toNatClampNeg) else (lt k.toNatClampNeg)))) hx hb hr (fun t ht hW => ⟨⟨(wk k.toNatClampNeg) + ((lo k.toNatClampNeg) * (if (wk k.toNatClampNeg) < (lt k.toNatClampNeg) then (wk k.toNatClampNeg) else (lt k.toNatClampNeg))), (n, wk, sd, bt, lt, lo, rk, ad, vl, bg, cm, sp, gd, rf, ct, rd, sm, js, sn, wl), rfl, ⟨rfl, rfl⟩, by rw [ht]; exact hP, va_K.moved hW.alike hK, hD⟩, hS.F ht⟩) hS.2.2 dX1_stepsWithLosses_29
end
section
set_option maxHeartbeats 4000000 in
set_option maxRecDepth 100000 in
/-- Acts.append(r, v) -/
theorem c_X2_append (l : Launch) (dC : Nat → ClassId) (dI : Nat → Nat → Nat) (c0 : ClassId) (a : Nat → Nat) (sz : Nat) (n : Nat) (wk sd bt lt lo rk ad vl bg cm : Nat → Int32) (sp gd rf : Int32) (ct : Nat) (rd : Int32) (sm : Int64) (js sn wl : Int32) (x : Int32) (v : Int32) (hct : ct < 24) : Met l yX2_append wsX2_append ({ frames := 0, cells := 0, slots := 0, locals := 0 }) (va_Pc [.ref (a 2), .int x, .int v] (PX dC dI c0 a (n, wk, sd, bt, lt, lo, rk, ad, vl, bg, cm, sp, gd, rf, ct, rd, sm, js, sn, wl) sz)) (va_Qi (fun (r : Int32) (u : xS) => u = (n, wk, sd, bt, lt, lo, upd rk ct x, upd ad ct v, vl, bg, cm, sp, gd, rf, ct + 1, rd, sm, js, sn, wl) ∧ r = nI ct) (BX dC dI c0 a (va_A (wX c0 a (n, wk, sd, bt, lt, lo, rk, ad, vl, bg, cm, sp, gd, rf, ct, rd, sm, js, sn, wl)) sz)) (va_A (wX c0 a (n, wk, sd, bt, lt, lo, rk, ad, vl, bg, cm, sp, gd, rf, ct, rd, sm, js, sn, wl)) sz)) 0 0 (va_A (wX c0 a (n, wk, sd, bt, lt, lo, rk, ad, vl, bg, cm, sp, gd, rf, ct, rd, sm, js, sn, wl)) sz) := by
  refine Met.ofW (cc := cX2_append) (maxL := 4) (ret := (some .int)) (by decide) rfl ?_
  intro p e s m args below meth c s₁ B hml hv
  obtain ⟨rfl, hsz, hP, hK, hD0, hE⟩ := hv
  have hx := B.exec
  have hb := B.bytes
  have hr := B.returns
  have hown : s.vm.findClass RX2 = some m.cls := findClass_of_methodNamed B.named
  have hlocks := B.notSynchronized
  subst hsz
  have hD := hD0.self (sz := s.heap.size)
  generalize hAe : va_A (wX c0 a (n, wk, sd, bt, lt, lo, rk, ad, vl, bg, cm, sp, gd, rf, ct, rd, sm, js, sn, wl)) s.heap.size = A at hD hE ⊢
  have hts := hE.ts (args := ([.ref (a 2), .int x, .int v] : List Value).toArray)
  have hA : ∀ q : Nat, s.heap.size ≤ q → A q := fun q h => by rw [← hAe]; exact Or.inr h
  have hS : va_S A s.heap s.heap [] := va_S.rf
  have hP : va_P (dC, dI) vwCl (wX c0 a (n, wk, sd, bt, lt, lo, rk, ad, vl, bg, cm, sp, gd, rf, ct, rd, sm, js, sn, wl)) s.heap := hP
  have hl := lv_entry ([.ref (a 2), .int x, .int v]) (n := 4) (Nat.le_of_ble_eq_true rfl)
  rw [lg_entry_eq]
  generalize (lg_sl ([.ref (a 2), .int x, .int v]) ++ List.replicate (4 - (lg_sl ([.ref (a 2), .int x, .int v])).length) Slot.unset).toArray = ls at hl ⊢
  have hl : lv_has ls 4 [(0, .ref (a 2)), (1, .int x), (2, .int v)] := hl
  refine lv_aload_n hx hb dX2_append_0 rfl (lv_at hl 0 rfl) ?_
  refine va_get (D := (dC, dI)) (ci := 2) (v := .int (nI ct)) (C := RX2) (T := TX2) (N := 3) hx hb hts inX2 hown hK hP 2 rfl rfl 2 (by decide) (hE.t m_95 rfl) (fun _ h9 => h9) rfl dX2_append_1 ?_
  refine lv_istore_n (lv' := [(3, .int (nI ct)), (0, .ref (a 2)), (1, .int x), (2, .int v)]) hx hb dX2_append_4 rfl hl (by decide) rfl (fun ls hl => ?_)
  refine lv_aload_n hx hb dX2_append_5 rfl (lv_at hl 1 rfl) ?_
  refine va_get (D := (dC, dI)) (ci := 2) (v := .ref (a 9)) (C := RX2) (T := TX2) (N := 3) hx hb hts inX2 hown hK hP 2 rfl rfl 0 (by decide) (hE.t m_91 rfl) (fun _ h9 => h9) rfl dX2_append_6 ?_
  refine lv_iload_n hx hb dX2_append_9 rfl (lv_at hl 0 rfl) ?_
  refine lv_iload_n hx hb dX2_append_10 rfl (lv_at hl 2 rfl) ?_
  refine va_iast hx hb hK hP hD hS 9 0 rfl rfl (vp_in_nI (by omega) (by omega)) dX2_append_11 (fun H locs hP hD hS => ?_)
  rw [nI_clamp (n := ct) (by omega)] at hP hD
  have hP : va_P (dC, dI) vwCl (wX c0 a (n, wk, sd, bt, lt, lo, upd rk ct x, ad, vl, bg, cm, sp, gd, rf, ct, rd, sm, js, sn, wl)) H := hP
  have hD : va_D A (wX c0 a (n, wk, sd, bt, lt, lo, upd rk ct x, ad, vl, bg, cm, sp, gd, rf, ct, rd, sm, js, sn, wl)) := hD
  refine lv_aload_n hx hb dX2_append_12 rfl (lv_at hl 1 rfl) ?_
  refine va_get (D := (dC, dI)) (ci := 2) (v := .ref (a 10)) (C := RX2) (T := TX2) (N := 3) hx hb hts inX2 hown hK hP 2 rfl rfl 1 (by decide) (hE.t m_93 rfl) (fun _ h9 => h9) rfl dX2_append_13 ?_
  refine lv_iload_n hx hb dX2_append_16 rfl (lv_at hl 0 rfl) ?_
  refine lv_iload_n hx hb dX2_append_17 rfl (lv_at hl 3 rfl) ?_
  refine va_iast hx hb hK hP hD hS 10 0 rfl rfl (vp_in_nI (by omega) (by omega)) dX2_append_18 (fun H locs hP hD hS => ?_)
  rw [nI_clamp (n := ct) (by omega)] at hP hD
  have hP : va_P (dC, dI) vwCl (wX c0 a (n, wk, sd, bt, lt, lo, upd rk ct x, upd ad ct v, vl, bg, cm, sp, gd, rf, ct, rd, sm, js, sn, wl)) H := hP
  have hD : va_D A (wX c0 a (n, wk, sd, bt, lt, lo, upd rk ct x, upd ad ct v, vl, bg, cm, sp, gd, rf, ct, rd, sm, js, sn, wl)) := hD
  refine lv_aload_n hx hb dX2_append_19 rfl (lv_at hl 1 rfl) ?_
  refine lv_iload_n hx hb dX2_append_20 rfl (lv_at hl 0 rfl) ?_
  refine lv_iconst (v := 1) hx hb dX2_append_21 (by decide) ?_
  refine lv_iadd hx hb dX2_append_22 ?_
  rw [nI_1]
  refine va_put (D := (dC, dI)) (ci := 2) (v := .int (nI (ct + 1))) (ty := .int) (C := RX2) (T := TX2) (N := 3) hx hb hts inX2 tyX2 tyX2_ok nmX2 hown hK hP hD hS 2 rfl rfl 2 (by decide) (hE.t m_95 rfl) (fun _ h9 => h9) rfl (by decide +kernel) rfl rfl (Nat.le_of_ble_eq_true rfl) dX2_append_23 (fun H locs hP hD hS => ?_)
  have hP : va_P (dC, dI) vwCl (wX c0 a (n, wk, sd, bt, lt, lo, upd rk ct x, upd ad ct v, vl, bg, cm, sp, gd, rf, ct + 1, rd, sm, js, sn, wl)) H := hP
  have hD : va_D A (wX c0 a (n, wk, sd, bt, lt, lo, upd rk ct x, upd ad ct v, vl, bg, cm, sp, gd, rf, ct + 1, rd, sm, js, sn, wl)) := hD
  refine lv_iload_n hx hb dX2_append_26 rfl (lv_at hl 0 rfl) ?_
  exact W.iret (v := nI ct) hx hb hr (fun t ht hW => ⟨⟨nI ct, (n, wk, sd, bt, lt, lo, upd rk ct x, upd ad ct v, vl, bg, cm, sp, gd, rf, ct + 1, rd, sm, js, sn, wl), rfl, ⟨rfl, rfl⟩, by rw [ht]; exact hP, va_K.moved hW.alike hK, hD⟩, hS.F ht⟩) hS.2.2 dX2_append_27
end
section
set_option maxHeartbeats 4000000 in
set_option maxRecDepth 100000 in
/-- Told.doAll(shares) -/
theorem c_X3_doAll (l : Launch) (dC : Nat → ClassId) (dI : Nat → Nat → Nat) (c0 : ClassId) (a : Nat → Nat) (sz : Nat) (n : Nat) (wk sd bt lt lo rk ad vl bg cm : Nat → Int32) (sp gd rf : Int32) (ct : Nat) (rd : Int32) (sm : Int64) (js sn wl : Int32) (hn : n ≤ 40) : Met l yX3_doAll wsX3_doAll ({ frames := 3, cells := 0, slots := 0, locals := 60 }) (va_Pc [.ref (a 3), .ref (a 1)] (PX dC dI c0 a (n, wk, sd, bt, lt, lo, rk, ad, vl, bg, cm, sp, gd, rf, ct, rd, sm, js, sn, wl) sz)) (va_Qv (fun (u : xS) => u = (n, wk, sd, bt, lt, lo, rk, ad, fil (fun j => lastV wk sd (nI j)) vl n, fil (fun j => lo j + 1) bg n, cm, sp, gd, rf, ct, 1, sm, js, sumL (fun j => swl wk lt lo (nI j)) n, wl)) (BX dC dI c0 a (va_A (wX c0 a (n, wk, sd, bt, lt, lo, rk, ad, vl, bg, cm, sp, gd, rf, ct, rd, sm, js, sn, wl)) sz)) (va_A (wX c0 a (n, wk, sd, bt, lt, lo, rk, ad, vl, bg, cm, sp, gd, rf, ct, rd, sm, js, sn, wl)) sz)) 0 0 (va_A (wX c0 a (n, wk, sd, bt, lt, lo, rk, ad, vl, bg, cm, sp, gd, rf, ct, rd, sm, js, sn, wl)) sz) := by
  refine Met.ofW (cc := cX3_doAll) (maxL := 3) (ret := none) (by decide) rfl ?_
  intro p e s m args below meth c s₁ B hml hv
  obtain ⟨rfl, hsz, hP, hK, hD0, hE⟩ := hv
  have hx := B.exec
  have hb := B.bytes
  have hr := B.returns
  have hown : s.vm.findClass RX3 = some m.cls := findClass_of_methodNamed B.named
  have hlocks := B.notSynchronized
  subst hsz
  have hD := hD0.self (sz := s.heap.size)
  generalize hAe : va_A (wX c0 a (n, wk, sd, bt, lt, lo, rk, ad, vl, bg, cm, sp, gd, rf, ct, rd, sm, js, sn, wl)) s.heap.size = A at hD hE ⊢
  have hts := hE.ts (args := ([.ref (a 3), .ref (a 1)] : List Value).toArray)
  have hA : ∀ q : Nat, s.heap.size ≤ q → A q := fun q h => by rw [← hAe]; exact Or.inr h
  have hS : va_S A s.heap s.heap [] := va_S.rf
  have hP : va_P (dC, dI) vwCl (wX c0 a (n, wk, sd, bt, lt, lo, rk, ad, vl, bg, cm, sp, gd, rf, ct, rd, sm, js, sn, wl)) s.heap := hP
  refine gz (P := fun Z => W p l e _ s m _ below meth c _ _ _ _ Z _) (fun Z hZ => ?_)
  show W p l e _ s m _ below meth c _ _ _ _ Z _
  have hl := lv_entry ([.ref (a 3), .ref (a 1)]) (n := 3) (Nat.le_of_ble_eq_true rfl)
  rw [lg_entry_eq]
  generalize (lg_sl ([.ref (a 3), .ref (a 1)]) ++ List.replicate (3 - (lg_sl ([.ref (a 3), .ref (a 1)])).length) Slot.unset).toArray = ls at hl ⊢
  have hl : lv_has ls 3 [(0, .ref (a 3)), (1, .ref (a 1))] := hl
  refine lv_aload_n hx hb dX3_doAll_0 rfl (lv_at hl 0 rfl) ?_
  refine lv_iconst (v := 1) hx hb dX3_doAll_1 (by decide) ?_
  refine va_put (D := (dC, dI)) (ci := 3) (v := .int 1) (ty := .boolean) (C := RX3) (T := TX3) (N := 8) hx hb hts inX3 tyX3 tyX3_ok nmX3 hown hK hP hD hS 3 rfl rfl 3 (by decide) (hE.t m_117 rfl) (fun _ h9 => h9) rfl (by decide +kernel) rfl rfl (Nat.le_of_ble_eq_true rfl) dX3_doAll_2 (fun H locs hP hD hS => ?_)
  have hP : va_P (dC, dI) vwCl (wX c0 a (n, wk, sd, bt, lt, lo, rk, ad, vl, bg, cm, sp, gd, rf, ct, 1, sm, js, sn, wl)) H := hP
  have hD : va_D A (wX c0 a (n, wk, sd, bt, lt, lo, rk, ad, vl, bg, cm, sp, gd, rf, ct, 1, sm, js, sn, wl)) := hD
  refine lv_aload_n hx hb dX3_doAll_5 rfl (lv_at hl 0 rfl) ?_
  refine lv_iconst (v := 0) hx hb dX3_doAll_6 (by decide) ?_
  refine va_put (D := (dC, dI)) (ci := 3) (v := .int 0) (ty := .int) (C := RX3) (T := TX3) (N := 8) hx hb hts inX3 tyX3 tyX3_ok nmX3 hown hK hP hD hS 3 rfl rfl 6 (by decide) (hE.t m_123 rfl) (fun _ h9 => h9) rfl (by decide +kernel) rfl rfl (Nat.le_of_ble_eq_true rfl) dX3_doAll_7 (fun H locs hP hD hS => ?_)
  have hP : va_P (dC, dI) vwCl (wX c0 a (n, wk, sd, bt, lt, lo, rk, ad, vl, bg, cm, sp, gd, rf, ct, 1, sm, js, 0, wl)) H := hP
  have hD : va_D A (wX c0 a (n, wk, sd, bt, lt, lo, rk, ad, vl, bg, cm, sp, gd, rf, ct, 1, sm, js, 0, wl)) := hD
  refine lv_iconst (v := 0) hx hb dX3_doAll_10 (by decide) ?_
  refine lv_istore_n (lv' := [(2, .int 0), (0, .ref (a 3)), (1, .ref (a 1))]) hx hb dX3_doAll_11 rfl hl (by decide) rfl (fun ls hl => ?_)
  have hloop12 : ∀ (fu : Nat) (i : Nat), n + 1 ≤ i + fu → i ≤ n → ∀ (H : Heap) (locs : List Loc) (ls : Array Slot), va_P (dC, dI) vwCl (wX c0 a (n, wk, sd, bt, lt, lo, rk, ad, fil (fun j => lastV wk sd (nI j)) vl i, fil (fun j => lo j + 1) bg i, cm, sp, gd, rf, ct, 1, sm, js, sumL (fun j => swl wk lt lo (nI j)) i, wl)) H → va_D A (wX c0 a (n, wk, sd, bt, lt, lo, rk, ad, fil (fun j => lastV wk sd (nI j)) vl i, fil (fun j => lo j + 1) bg i, cm, sp, gd, rf, ct, 1, sm, js, sumL (fun j => swl wk lt lo (nI j)) i, wl)) → va_S A s.heap H locs → lv_has ls 3 [(0, .ref (a 3)), (1, .ref (a 1)), (2, .int (nI i))] → W p l e (headSpec wsX3_doAll ({ frames := 3, cells := 0, slots := 0, locals := 60 })).room s m ([.ref (a 3), .ref (a 1)] : List Value).toArray below meth c H locs 0 0 Z (F0 m 12 ls []) := by
    intro fu
    induction fu with
    | zero =>
      intro i hfu hi
      exact absurd hfu (by omega)
    | succ fu ih12 =>
      intro i hfu hi H locs ls hP hD hS hl
      refine lv_iload_n hx hb dX3_doAll_12 rfl (lv_at hl 2 rfl) ?_
      refine lv_aload_n hx hb dX3_doAll_13 rfl (lv_at hl 1 rfl) ?_
      refine va_getN (D := (dC, dI)) (ci := 1) (v := .int (nI n)) (C := RX1) (T := TX1) (N := 6) hx hb hts inX1 hown hK hP 1 rfl rfl 0 (by decide) (hE.t m_58 rfl) (fun _ h9 => h9) rfl dX3_doAll_14 ?_
      refine lv_icmp_ge (tgt := 65) hx hb dX3_doAll_17 (by decide) (fun c_17 => ?_) (fun c_17 => ?_)
      · skip
        have hie : i = n := by
          have h9 := (nI_leI (a := n) (b := i) (by omega) (by omega)).mp c_17
          omega
        rw [hie] at hP hD hl
        rw [hZ]
        exact W.vret hx hb hr (fun t ht hW => ⟨⟨(n, wk, sd, bt, lt, lo, rk, ad, fil (fun j => lastV wk sd (nI j)) vl n, fil (fun j => lo j + 1) bg n, cm, sp, gd, rf, ct, 1, sm, js, sumL (fun j => swl wk lt lo (nI j)) n, wl), rfl, rfl, by rw [ht]; exact hP, va_K.moved hW.alike hK, hD⟩, hS.F ht⟩) hS.2.2 dX3_doAll_65
      · skip
        have hlt : i < n := by
          rcases Nat.lt_or_ge i n with h9 | h9
          · exact h9
          · exact absurd (nI_le h9 (by omega)) c_17
        refine lv_aload_n hx hb dX3_doAll_20 rfl (lv_at hl 0 rfl) ?_
        refine va_get (D := (dC, dI)) (ci := 3) (v := .ref (a 11)) (C := RX3) (T := TX3) (N := 8) hx hb hts inX3 hown hK hP 3 rfl rfl 0 (by decide) (hE.t m_111 rfl) (fun _ h9 => h9) rfl dX3_doAll_21 ?_
        refine lv_iload_n hx hb dX3_doAll_24 rfl (lv_at hl 2 rfl) ?_
        refine lv_aload_n hx hb dX3_doAll_25 rfl (lv_at hl 1 rfl) ?_
        refine lv_iload_n hx hb dX3_doAll_26 rfl (lv_at hl 2 rfl) ?_
        have hFc := fre hD hS hA
        refine va_calli (va_runVN (As := [.int (nI i)]) (rest := [.int (nI i), .ref (a 11)]) ⟨hx, hb, hml, hown, hts⟩ (c_X1_lastValue l dC dI c0 a _ n wk sd bt lt lo rk ad (fil (fun j => lastV wk sd (nI j)) vl i) (fil (fun j => lo j + 1) bg i) cm sp gd rf ct 1 sm js (sumL (fun j => swl wk lt lo (nI j)) i) wl (nI i) (vp_in_nI (by omega) (by omega))) ⟨va_cnB (host := "DrawShares") 1 hts gX3_doAll_X1_lastValue rfl rfl rfl (hE.t0 m_324 rfl) (hE.t m_23 rfl) (by decide +kernel) ⟨(Nat.le_of_ble_eq_true rfl), (Nat.le_of_ble_eq_true rfl)⟩, hE.t m_326 rfl, hE.t m_5 rfl⟩ ⟨PX_blind, va_recv hK hP (ci := 1) (q0 := 1) rfl rfl, PX_give hP hK hD hE hS hFc⟩ rfl rfl hl.1 rfl (lv_room (Nat.le_of_ble_eq_true rfl)) dX3_doAll_27 ⟨by decide, by decide⟩) hS (fun q _ h => hFc q h) hFc (fun r_27 u t H1 locs ht hvm hw hB hz1 hk1 hS => ?_)
        obtain ⟨rfl, rfl⟩ := hw
        obtain ⟨hP, hD⟩ := PX_take ht hFc hB
        generalize H1 = H at hP hS ⊢
        have hP : va_P (dC, dI) vwCl (wX c0 a (n, wk, sd, bt, lt, lo, rk, ad, fil (fun j => lastV wk sd (nI j)) vl i, fil (fun j => lo j + 1) bg i, cm, sp, gd, rf, ct, 1, sm, js, sumL (fun j => swl wk lt lo (nI j)) i, wl)) H := hP
        have hD : va_D A (wX c0 a (n, wk, sd, bt, lt, lo, rk, ad, fil (fun j => lastV wk sd (nI j)) vl i, fil (fun j => lo j + 1) bg i, cm, sp, gd, rf, ct, 1, sm, js, sumL (fun j => swl wk lt lo (nI j)) i, wl)) := hD
        refine va_iast hx hb hK hP hD hS 11 0 rfl rfl (vp_in_nI (by omega) (by omega)) dX3_doAll_30 (fun H locs hP hD hS => ?_)
        rw [nI_clamp (n := i) (by omega)] at hP hD
        have hP : va_P (dC, dI) vwCl (wX c0 a (n, wk, sd, bt, lt, lo, rk, ad, upd (fil (fun j => lastV wk sd (nI j)) vl i) i (lastV wk sd (nI i)), fil (fun j => lo j + 1) bg i, cm, sp, gd, rf, ct, 1, sm, js, sumL (fun j => swl wk lt lo (nI j)) i, wl)) H := hP
        have hD : va_D A (wX c0 a (n, wk, sd, bt, lt, lo, rk, ad, upd (fil (fun j => lastV wk sd (nI j)) vl i) i (lastV wk sd (nI i)), fil (fun j => lo j + 1) bg i, cm, sp, gd, rf, ct, 1, sm, js, sumL (fun j => swl wk lt lo (nI j)) i, wl)) := hD
        refine lv_aload_n hx hb dX3_doAll_31 rfl (lv_at hl 0 rfl) ?_
        refine va_get (D := (dC, dI)) (ci := 3) (v := .ref (a 12)) (C := RX3) (T := TX3) (N := 8) hx hb hts inX3 hown hK hP 3 rfl rfl 1 (by decide) (hE.t m_113 rfl) (fun _ h9 => h9) rfl dX3_doAll_32 ?_
        refine lv_iload_n hx hb dX3_doAll_35 rfl (lv_at hl 2 rfl) ?_
        refine lv_aload_n hx hb dX3_doAll_36 rfl (lv_at hl 1 rfl) ?_
        refine va_getN (D := (dC, dI)) (ci := 1) (v := .ref (a 8)) (C := RX1) (T := TX1) (N := 6) hx hb hts inX1 hown hK hP 1 rfl rfl 5 (by decide) (hE.t m_69 rfl) (fun _ h9 => h9) rfl dX3_doAll_37 ?_
        refine lv_iload_n hx hb dX3_doAll_40 rfl (lv_at hl 2 rfl) ?_
        refine va_iald hx hb hK hP 8 0 rfl rfl (vp_in_nI (by omega) (by omega)) dX3_doAll_41 ?_
        rw [nI_clamp (n := i) (by omega)]
        refine lv_iconst (v := 1) hx hb dX3_doAll_42 (by decide) ?_
        refine lv_iadd hx hb dX3_doAll_43 ?_
        refine va_iast hx hb hK hP hD hS 12 0 rfl rfl (vp_in_nI (by omega) (by omega)) dX3_doAll_44 (fun H locs hP hD hS => ?_)
        rw [nI_clamp (n := i) (by omega)] at hP hD
        have hP : va_P (dC, dI) vwCl (wX c0 a (n, wk, sd, bt, lt, lo, rk, ad, upd (fil (fun j => lastV wk sd (nI j)) vl i) i (lastV wk sd (nI i)), upd (fil (fun j => lo j + 1) bg i) i ((lo i) + 1), cm, sp, gd, rf, ct, 1, sm, js, sumL (fun j => swl wk lt lo (nI j)) i, wl)) H := hP
        have hD : va_D A (wX c0 a (n, wk, sd, bt, lt, lo, rk, ad, upd (fil (fun j => lastV wk sd (nI j)) vl i) i (lastV wk sd (nI i)), upd (fil (fun j => lo j + 1) bg i) i ((lo i) + 1), cm, sp, gd, rf, ct, 1, sm, js, sumL (fun j => swl wk lt lo (nI j)) i, wl)) := hD
        refine lv_aload_n hx hb dX3_doAll_45 rfl (lv_at hl 0 rfl) ?_
        refine lv_dup hx hb dX3_doAll_46 rfl ?_
        refine va_get (D := (dC, dI)) (ci := 3) (v := .int (sumL (fun j => swl wk lt lo (nI j)) i)) (C := RX3) (T := TX3) (N := 8) hx hb hts inX3 hown hK hP 3 rfl rfl 6 (by decide) (hE.t m_123 rfl) (fun _ h9 => h9) rfl dX3_doAll_47 ?_
        refine lv_aload_n hx hb dX3_doAll_50 rfl (lv_at hl 1 rfl) ?_
        refine lv_iload_n hx hb dX3_doAll_51 rfl (lv_at hl 2 rfl) ?_
        have hFc := fre hD hS hA
        refine va_calli (va_runVN (As := [.int (nI i)]) (rest := [.int (sumL (fun j => swl wk lt lo (nI j)) i), .ref (a 3)]) ⟨hx, hb, hml, hown, hts⟩ (c_X1_stepsWithLosses l dC dI c0 a _ n wk sd bt lt lo rk ad (upd (fil (fun j => lastV wk sd (nI j)) vl i) i (lastV wk sd (nI i))) (upd (fil (fun j => lo j + 1) bg i) i ((lo i) + 1)) cm sp gd rf ct 1 sm js (sumL (fun j => swl wk lt lo (nI j)) i) wl (nI i) (vp_in_nI (by omega) (by omega))) ⟨va_cnB (host := "DrawShares") 1 hts gX3_doAll_X1_stepsWithLosses rfl rfl rfl (hE.t0 m_335 rfl) (hE.t m_23 rfl) (by decide +kernel) ⟨(Nat.le_of_ble_eq_true rfl), (Nat.le_of_ble_eq_true rfl)⟩, hE.t m_337 rfl, hE.t m_7 rfl⟩ ⟨PX_blind, va_recv hK hP (ci := 1) (q0 := 1) rfl rfl, PX_give hP hK hD hE hS hFc⟩ rfl rfl hl.1 rfl (lv_room (Nat.le_of_ble_eq_true rfl)) dX3_doAll_52 ⟨by decide, by decide⟩) hS (fun q _ h => hFc q h) hFc (fun r_52 u t H1 locs ht hvm hw hB hz1 hk1 hS => ?_)
        obtain ⟨rfl, rfl⟩ := hw
        obtain ⟨hP, hD⟩ := PX_take ht hFc hB
        generalize H1 = H at hP hS ⊢
        have hP : va_P (dC, dI) vwCl (wX c0 a (n, wk, sd, bt, lt, lo, rk, ad, upd (fil (fun j => lastV wk sd (nI j)) vl i) i (lastV wk sd (nI i)), upd (fil (fun j => lo j + 1) bg i) i ((lo i) + 1), cm, sp, gd, rf, ct, 1, sm, js, sumL (fun j => swl wk lt lo (nI j)) i, wl)) H := hP
        have hD : va_D A (wX c0 a (n, wk, sd, bt, lt, lo, rk, ad, upd (fil (fun j => lastV wk sd (nI j)) vl i) i (lastV wk sd (nI i)), upd (fil (fun j => lo j + 1) bg i) i ((lo i) + 1), cm, sp, gd, rf, ct, 1, sm, js, sumL (fun j => swl wk lt lo (nI j)) i, wl)) := hD
        refine lv_iadd hx hb dX3_doAll_55 ?_
        refine va_put (D := (dC, dI)) (ci := 3) (v := .int ((sumL (fun j => swl wk lt lo (nI j)) i) + (swl wk lt lo (nI i)))) (ty := .int) (C := RX3) (T := TX3) (N := 8) hx hb hts inX3 tyX3 tyX3_ok nmX3 hown hK hP hD hS 3 rfl rfl 6 (by decide) (hE.t m_123 rfl) (fun _ h9 => h9) rfl (by decide +kernel) rfl rfl (Nat.le_of_ble_eq_true rfl) dX3_doAll_56 (fun H locs hP hD hS => ?_)
        have hP : va_P (dC, dI) vwCl (wX c0 a (n, wk, sd, bt, lt, lo, rk, ad, upd (fil (fun j => lastV wk sd (nI j)) vl i) i (lastV wk sd (nI i)), upd (fil (fun j => lo j + 1) bg i) i ((lo i) + 1), cm, sp, gd, rf, ct, 1, sm, js, (sumL (fun j => swl wk lt lo (nI j)) i) + (swl wk lt lo (nI i)), wl)) H := hP
        have hD : va_D A (wX c0 a (n, wk, sd, bt, lt, lo, rk, ad, upd (fil (fun j => lastV wk sd (nI j)) vl i) i (lastV wk sd (nI i)), upd (fil (fun j => lo j + 1) bg i) i ((lo i) + 1), cm, sp, gd, rf, ct, 1, sm, js, (sumL (fun j => swl wk lt lo (nI j)) i) + (swl wk lt lo (nI i)), wl)) := hD
        refine lv_iinc (v := nI (i + 1)) (lv' := [(2, .int (nI (i + 1))), (0, .ref (a 3)), (1, .ref (a 1))]) hx hb dX3_doAll_59 hl (k := 2) rfl (by rw [← nI_1]; rfl) (by decide) rfl (fun ls hl => ?_)
        refine lv_goto (tgt := 12) hx hb dX3_doAll_62 (by decide) ?_
        exact ih12 (i + 1) (by omega) (by omega) _ _ _ hP hD hS (lv_sub hl [1, 2, 0] rfl)
  have hl0 : lv_has ls 3 [(0, .ref (a 3)), (1, .ref (a 1)), (2, .int (nI 0))] := by
    rw [nI_0]; exact lv_sub hl [1, 2, 0] rfl
  exact hloop12 (n + 1) 0 (by omega) (by omega) _ _ _ hP hD hS hl0
set_option maxHeartbeats 4000000 in
set_option maxRecDepth 100000 in
/-- Told.letIn(acts, r) -/
theorem c_X3_letIn (l : Launch) (dC : Nat → ClassId) (dI : Nat → Nat → Nat) (c0 : ClassId) (a : Nat → Nat) (sz : Nat) (n : Nat) (wk sd bt lt lo rk ad vl bg cm : Nat → Int32) (sp gd rf : Int32) (ct : Nat) (rd : Int32) (sm : Int64) (js sn wl : Int32) (x : Int32) (hct : ct ≤ 24) : Met l yX3_letIn wsX3_letIn ({ frames := 0, cells := 0, slots := 0, locals := 0 }) (va_Pc [.ref (a 3), .ref (a 2), .int x] (PX dC dI c0 a (n, wk, sd, bt, lt, lo, rk, ad, vl, bg, cm, sp, gd, rf, ct, rd, sm, js, sn, wl) sz)) (va_Qv (fun (u : xS) => u = (n, wk, sd, bt, lt, lo, rk, ad, vl, bg, linC rk x cm ct, sp, gd, rf, ct, rd, linS rk ad x sm ct, js, sn, wl)) (BX dC dI c0 a (va_A (wX c0 a (n, wk, sd, bt, lt, lo, rk, ad, vl, bg, cm, sp, gd, rf, ct, rd, sm, js, sn, wl)) sz)) (va_A (wX c0 a (n, wk, sd, bt, lt, lo, rk, ad, vl, bg, cm, sp, gd, rf, ct, rd, sm, js, sn, wl)) sz)) 0 0 (va_A (wX c0 a (n, wk, sd, bt, lt, lo, rk, ad, vl, bg, cm, sp, gd, rf, ct, rd, sm, js, sn, wl)) sz) := by
  refine Met.ofW (cc := cX3_letIn) (maxL := 4) (ret := none) (by decide) rfl ?_
  intro p e s m args below meth c s₁ B hml hv
  obtain ⟨rfl, hsz, hP, hK, hD0, hE⟩ := hv
  have hx := B.exec
  have hb := B.bytes
  have hr := B.returns
  have hown : s.vm.findClass RX3 = some m.cls := findClass_of_methodNamed B.named
  have hlocks := B.notSynchronized
  subst hsz
  have hD := hD0.self (sz := s.heap.size)
  generalize hAe : va_A (wX c0 a (n, wk, sd, bt, lt, lo, rk, ad, vl, bg, cm, sp, gd, rf, ct, rd, sm, js, sn, wl)) s.heap.size = A at hD hE ⊢
  have hts := hE.ts (args := ([.ref (a 3), .ref (a 2), .int x] : List Value).toArray)
  have hA : ∀ q : Nat, s.heap.size ≤ q → A q := fun q h => by rw [← hAe]; exact Or.inr h
  have hS : va_S A s.heap s.heap [] := va_S.rf
  have hP : va_P (dC, dI) vwCl (wX c0 a (n, wk, sd, bt, lt, lo, rk, ad, vl, bg, cm, sp, gd, rf, ct, rd, sm, js, sn, wl)) s.heap := hP
  refine gz (P := fun Z => W p l e _ s m _ below meth c _ _ _ _ Z _) (fun Z hZ => ?_)
  show W p l e _ s m _ below meth c _ _ _ _ Z _
  have hl := lv_entry ([.ref (a 3), .ref (a 2), .int x]) (n := 4) (Nat.le_of_ble_eq_true rfl)
  rw [lg_entry_eq]
  generalize (lg_sl ([.ref (a 3), .ref (a 2), .int x]) ++ List.replicate (4 - (lg_sl ([.ref (a 3), .ref (a 2), .int x])).length) Slot.unset).toArray = ls at hl ⊢
  have hl : lv_has ls 4 [(0, .ref (a 3)), (1, .ref (a 2)), (2, .int x)] := hl
  refine lv_iconst (v := 0) hx hb dX3_letIn_0 (by decide) ?_
  refine lv_istore_n (lv' := [(3, .int 0), (0, .ref (a 3)), (1, .ref (a 2)), (2, .int x)]) hx hb dX3_letIn_1 rfl hl (by decide) rfl (fun ls hl => ?_)
  have hloop2 : ∀ (fu : Nat) (i : Nat), ct + 1 ≤ i + fu → i ≤ ct → ∀ (H : Heap) (locs : List Loc) (ls : Array Slot), va_P (dC, dI) vwCl (wX c0 a (n, wk, sd, bt, lt, lo, rk, ad, vl, bg, linC rk x cm i, sp, gd, rf, ct, rd, linS rk ad x sm i, js, sn, wl)) H → va_D A (wX c0 a (n, wk, sd, bt, lt, lo, rk, ad, vl, bg, linC rk x cm i, sp, gd, rf, ct, rd, linS rk ad x sm i, js, sn, wl)) → va_S A s.heap H locs → lv_has ls 4 [(0, .ref (a 3)), (1, .ref (a 2)), (2, .int x), (3, .int (nI i))] → W p l e (headSpec wsX3_letIn ({ frames := 0, cells := 0, slots := 0, locals := 0 })).room s m ([.ref (a 3), .ref (a 2), .int x] : List Value).toArray below meth c H locs 0 0 Z (F0 m 2 ls []) := by
    intro fu
    induction fu with
    | zero =>
      intro i hfu hi
      exact absurd hfu (by omega)
    | succ fu ih2 =>
      intro i hfu hi H locs ls hP hD hS hl
      refine lv_iload_n hx hb dX3_letIn_2 rfl (lv_at hl 3 rfl) ?_
      refine lv_aload_n hx hb dX3_letIn_3 rfl (lv_at hl 1 rfl) ?_
      refine va_getN (D := (dC, dI)) (ci := 2) (v := .int (nI ct)) (C := RX2) (T := TX2) (N := 3) hx hb hts inX2 hown hK hP 2 rfl rfl 2 (by decide) (hE.t m_96 rfl) (fun _ h9 => h9) rfl dX3_letIn_4 ?_
      refine lv_icmp_ge (tgt := 53) hx hb dX3_letIn_7 (by decide) (fun c_7 => ?_) (fun c_7 => ?_)
      · skip
        have hie : i = ct := by
          have h9 := (nI_leI (a := ct) (b := i) (by omega) (by omega)).mp c_7
          omega
        rw [hie] at hP hD hl
        rw [hZ]
        exact W.vret hx hb hr (fun t ht hW => ⟨⟨(n, wk, sd, bt, lt, lo, rk, ad, vl, bg, linC rk x cm ct, sp, gd, rf, ct, rd, linS rk ad x sm ct, js, sn, wl), rfl, rfl, by rw [ht]; exact hP, va_K.moved hW.alike hK, hD⟩, hS.F ht⟩) hS.2.2 dX3_letIn_53
      · skip
        have hlt : i < ct := by
          rcases Nat.lt_or_ge i ct with h9 | h9
          · exact h9
          · exact absurd (nI_le h9 (by omega)) c_7
        refine lv_aload_n hx hb dX3_letIn_10 rfl (lv_at hl 1 rfl) ?_
        refine va_getN (D := (dC, dI)) (ci := 2) (v := .ref (a 9)) (C := RX2) (T := TX2) (N := 3) hx hb hts inX2 hown hK hP 2 rfl rfl 0 (by decide) (hE.t m_92 rfl) (fun _ h9 => h9) rfl dX3_letIn_11 ?_
        refine lv_iload_n hx hb dX3_letIn_14 rfl (lv_at hl 3 rfl) ?_
        refine va_iald hx hb hK hP 9 0 rfl rfl (vp_in_nI (by omega) (by omega)) dX3_letIn_15 ?_
        rw [nI_clamp (n := i) (by omega)]
        refine lv_iload_n hx hb dX3_letIn_16 rfl (lv_at hl 2 rfl) ?_
        refine lv_icmp_ne (tgt := 47) hx hb dX3_letIn_17 (by decide) (fun c_17 => ?_) (fun c_17 => ?_)
        · skip
          refine lv_iinc (v := nI (i + 1)) (lv' := [(3, .int (nI (i + 1))), (0, .ref (a 3)), (1, .ref (a 2)), (2, .int x)]) hx hb dX3_letIn_47 hl (k := 3) rfl (by rw [← nI_1]; rfl) (by decide) rfl (fun ls hl => ?_)
          refine lv_goto (tgt := 2) hx hb dX3_letIn_50 (by decide) ?_
          have e1 : linS rk ad x sm (i + 1) = linS rk ad x sm i := by simp only [linS, c_17, ↓reduceIte]
          have e2 : linC rk x cm (i + 1) = linC rk x cm i := by simp only [linC, c_17, ↓reduceIte]
          rw [← e1, ← e2] at hP hD
          exact ih2 (i + 1) (by omega) (by omega) _ _ _ hP hD hS (lv_sub hl [1, 2, 3, 0] rfl)
        · skip
          refine lv_aload_n hx hb dX3_letIn_20 rfl (lv_at hl 0 rfl) ?_
          refine lv_ldc2 hx hb (own := RX3) (v := 31) hown (hE.t m_349 rfl) dX3_letIn_21 ?_
          refine lv_aload_n hx hb dX3_letIn_24 rfl (lv_at hl 0 rfl) ?_
          refine va_get (D := (dC, dI)) (ci := 3) (v := .long (linS rk ad x sm i)) (C := RX3) (T := TX3) (N := 8) hx hb hts inX3 hown hK hP 3 rfl rfl 4 (by decide) (hE.t m_119 rfl) (fun _ h9 => h9) rfl dX3_letIn_25 ?_
          refine lv_lmul hx hb dX3_letIn_28 ?_
          refine lv_aload_n hx hb dX3_letIn_29 rfl (lv_at hl 1 rfl) ?_
          refine va_getN (D := (dC, dI)) (ci := 2) (v := .ref (a 10)) (C := RX2) (T := TX2) (N := 3) hx hb hts inX2 hown hK hP 2 rfl rfl 1 (by decide) (hE.t m_94 rfl) (fun _ h9 => h9) rfl dX3_letIn_30 ?_
          refine lv_iload_n hx hb dX3_letIn_33 rfl (lv_at hl 3 rfl) ?_
          refine va_iald hx hb hK hP 10 0 rfl rfl (vp_in_nI (by omega) (by omega)) dX3_letIn_34 ?_
          rw [nI_clamp (n := i) (by omega)]
          refine lv_i2l hx hb dX3_letIn_35 (v := (ad i).toInt64) rfl ?_
          refine lv_ladd hx hb dX3_letIn_36 ?_
          refine va_put (D := (dC, dI)) (ci := 3) (v := .long ((31 * (linS rk ad x sm i)) + ((ad i).toInt64))) (ty := .long) (C := RX3) (T := TX3) (N := 8) hx hb hts inX3 tyX3 tyX3_ok nmX3 hown hK hP hD hS 3 rfl rfl 4 (by decide) (hE.t m_119 rfl) (fun _ h9 => h9) rfl (by decide +kernel) rfl rfl (Nat.le_of_ble_eq_true rfl) dX3_letIn_37 (fun H locs hP hD hS => ?_)
          have hP : va_P (dC, dI) vwCl (wX c0 a (n, wk, sd, bt, lt, lo, rk, ad, vl, bg, linC rk x cm i, sp, gd, rf, ct, rd, (31 * (linS rk ad x sm i)) + ((ad i).toInt64), js, sn, wl)) H := hP
          have hD : va_D A (wX c0 a (n, wk, sd, bt, lt, lo, rk, ad, vl, bg, linC rk x cm i, sp, gd, rf, ct, rd, (31 * (linS rk ad x sm i)) + ((ad i).toInt64), js, sn, wl)) := hD
          refine lv_aload_n hx hb dX3_letIn_40 rfl (lv_at hl 0 rfl) ?_
          refine va_get (D := (dC, dI)) (ci := 3) (v := .ref (a 13)) (C := RX3) (T := TX3) (N := 8) hx hb hts inX3 hown hK hP 3 rfl rfl 2 (by decide) (hE.t m_115 rfl) (fun _ h9 => h9) rfl dX3_letIn_41 ?_
          refine lv_iload_n hx hb dX3_letIn_44 rfl (lv_at hl 3 rfl) ?_
          refine lv_iload_n hx hb dX3_letIn_45 rfl (lv_at hl 2 rfl) ?_
          refine va_iast hx hb hK hP hD hS 13 0 rfl rfl (vp_in_nI (by omega) (by omega)) dX3_letIn_46 (fun H locs hP hD hS => ?_)
          rw [nI_clamp (n := i) (by omega)] at hP hD
          have hP : va_P (dC, dI) vwCl (wX c0 a (n, wk, sd, bt, lt, lo, rk, ad, vl, bg, upd (linC rk x cm i) i x, sp, gd, rf, ct, rd, (31 * (linS rk ad x sm i)) + ((ad i).toInt64), js, sn, wl)) H := hP
          have hD : va_D A (wX c0 a (n, wk, sd, bt, lt, lo, rk, ad, vl, bg, upd (linC rk x cm i) i x, sp, gd, rf, ct, rd, (31 * (linS rk ad x sm i)) + ((ad i).toInt64), js, sn, wl)) := hD
          refine lv_iinc (v := nI (i + 1)) (lv' := [(3, .int (nI (i + 1))), (0, .ref (a 3)), (1, .ref (a 2)), (2, .int x)]) hx hb dX3_letIn_47 hl (k := 3) rfl (by rw [← nI_1]; rfl) (by decide) rfl (fun ls hl => ?_)
          refine lv_goto (tgt := 2) hx hb dX3_letIn_50 (by decide) ?_
          have e1 : linS rk ad x sm (i + 1) = (31 * (linS rk ad x sm i)) + ((ad i).toInt64) := by simp only [linS, c_17, ↓reduceIte]
          have e2 : linC rk x cm (i + 1) = upd (linC rk x cm i) i x := by simp only [linC, c_17, ↓reduceIte]
          rw [← e1, ← e2] at hP hD
          exact ih2 (i + 1) (by omega) (by omega) _ _ _ hP hD hS (lv_sub hl [1, 2, 3, 0] rfl)
  have hl0 : lv_has ls 4 [(0, .ref (a 3)), (1, .ref (a 2)), (2, .int x), (3, .int (nI 0))] := by
    rw [nI_0]; exact lv_sub hl [1, 2, 3, 0] rfl
  exact hloop2 (ct + 1) 0 (by omega) (by omega) _ _ _ hP hD hS hl0
set_option maxHeartbeats 4000000 in
set_option maxRecDepth 100000 in
/-- Told.joinAll(shares, acts, z) -/
theorem c_X3_joinAll (l : Launch) (dC : Nat → ClassId) (dI : Nat → Nat → Nat) (c0 : ClassId) (a : Nat → Nat) (sz : Nat) (n : Nat) (wk sd bt lt lo rk ad vl bg cm : Nat → Int32) (sp gd rf : Int32) (ct : Nat) (rd : Int32) (sm : Int64) (js sn wl : Int32) (z : Int32) (hn : n ≤ 40) (hct : ct ≤ 24) : Met l yX3_joinAll wsX3_joinAll ({ frames := 2, cells := 0, slots := 0, locals := 60 }) (va_Pc [.ref (a 3), .ref (a 1), .ref (a 2), .int z] (PX dC dI c0 a (n, wk, sd, bt, lt, lo, rk, ad, vl, bg, cm, sp, gd, rf, ct, rd, sm, js, sn, wl) sz)) (va_Qi (fun (r : Int32) (u : xS) => ∃ (s9 : Int64) (c9 : Nat → Int32) (j9 : Nat), jnE bt rk ad vl (fil (fun _ => (-1)) cm 24) ct n z n 0 = (r, s9, c9, j9) ∧ u = (n, wk, sd, bt, lt, lo, rk, ad, vl, bg, c9, sp, gd, rf, ct, rd, s9, nI j9, sn, wl)) (BX dC dI c0 a (va_A (wX c0 a (n, wk, sd, bt, lt, lo, rk, ad, vl, bg, cm, sp, gd, rf, ct, rd, sm, js, sn, wl)) sz)) (va_A (wX c0 a (n, wk, sd, bt, lt, lo, rk, ad, vl, bg, cm, sp, gd, rf, ct, rd, sm, js, sn, wl)) sz)) 0 0 (va_A (wX c0 a (n, wk, sd, bt, lt, lo, rk, ad, vl, bg, cm, sp, gd, rf, ct, rd, sm, js, sn, wl)) sz) := by
  refine Met.ofW (cc := cX3_joinAll) (maxL := 5) (ret := (some .int)) (by decide) rfl ?_
  intro p e s m args below meth c s₁ B hml hv
  obtain ⟨rfl, hsz, hP, hK, hD0, hE⟩ := hv
  have hx := B.exec
  have hb := B.bytes
  have hr := B.returns
  have hown : s.vm.findClass RX3 = some m.cls := findClass_of_methodNamed B.named
  have hlocks := B.notSynchronized
  subst hsz
  have hD := hD0.self (sz := s.heap.size)
  generalize hAe : va_A (wX c0 a (n, wk, sd, bt, lt, lo, rk, ad, vl, bg, cm, sp, gd, rf, ct, rd, sm, js, sn, wl)) s.heap.size = A at hD hE ⊢
  have hts := hE.ts (args := ([.ref (a 3), .ref (a 1), .ref (a 2), .int z] : List Value).toArray)
  have hA : ∀ q : Nat, s.heap.size ≤ q → A q := fun q h => by rw [← hAe]; exact Or.inr h
  have hS : va_S A s.heap s.heap [] := va_S.rf
  have hP : va_P (dC, dI) vwCl (wX c0 a (n, wk, sd, bt, lt, lo, rk, ad, vl, bg, cm, sp, gd, rf, ct, rd, sm, js, sn, wl)) s.heap := hP
  refine gz (P := fun Z => W p l e _ s m _ below meth c _ _ _ _ Z _) (fun Z hZ => ?_)
  show W p l e _ s m _ below meth c _ _ _ _ Z _
  have hl := lv_entry ([.ref (a 3), .ref (a 1), .ref (a 2), .int z]) (n := 5) (Nat.le_of_ble_eq_true rfl)
  rw [lg_entry_eq]
  generalize (lg_sl ([.ref (a 3), .ref (a 1), .ref (a 2), .int z]) ++ List.replicate (5 - (lg_sl ([.ref (a 3), .ref (a 1), .ref (a 2), .int z])).length) Slot.unset).toArray = ls at hl ⊢
  have hl : lv_has ls 5 [(0, .ref (a 3)), (1, .ref (a 1)), (2, .ref (a 2)), (3, .int z)] := hl
  refine lv_aload_n hx hb dX3_joinAll_0 rfl (lv_at hl 0 rfl) ?_
  refine lv_lconst (v := 0) hx hb dX3_joinAll_1 (by decide) ?_
  refine va_put (D := (dC, dI)) (ci := 3) (v := .long 0) (ty := .long) (C := RX3) (T := TX3) (N := 8) hx hb hts inX3 tyX3 tyX3_ok nmX3 hown hK hP hD hS 3 rfl rfl 4 (by decide) (hE.t m_119 rfl) (fun _ h9 => h9) rfl (by decide +kernel) rfl rfl (Nat.le_of_ble_eq_true rfl) dX3_joinAll_2 (fun H locs hP hD hS => ?_)
  have hP : va_P (dC, dI) vwCl (wX c0 a (n, wk, sd, bt, lt, lo, rk, ad, vl, bg, cm, sp, gd, rf, ct, rd, 0, js, sn, wl)) H := hP
  have hD : va_D A (wX c0 a (n, wk, sd, bt, lt, lo, rk, ad, vl, bg, cm, sp, gd, rf, ct, rd, 0, js, sn, wl)) := hD
  refine lv_aload_n hx hb dX3_joinAll_5 rfl (lv_at hl 0 rfl) ?_
  refine lv_iconst (v := 0) hx hb dX3_joinAll_6 (by decide) ?_
  refine va_put (D := (dC, dI)) (ci := 3) (v := .int 0) (ty := .int) (C := RX3) (T := TX3) (N := 8) hx hb hts inX3 tyX3 tyX3_ok nmX3 hown hK hP hD hS 3 rfl rfl 5 (by decide) (hE.t m_121 rfl) (fun _ h9 => h9) rfl (by decide +kernel) rfl rfl (Nat.le_of_ble_eq_true rfl) dX3_joinAll_7 (fun H locs hP hD hS => ?_)
  have hP : va_P (dC, dI) vwCl (wX c0 a (n, wk, sd, bt, lt, lo, rk, ad, vl, bg, cm, sp, gd, rf, ct, rd, 0, 0, sn, wl)) H := hP
  have hD : va_D A (wX c0 a (n, wk, sd, bt, lt, lo, rk, ad, vl, bg, cm, sp, gd, rf, ct, rd, 0, 0, sn, wl)) := hD
  refine lv_aload_n hx hb dX3_joinAll_10 rfl (lv_at hl 0 rfl) ?_
  refine va_get (D := (dC, dI)) (ci := 3) (v := .ref (a 13)) (C := RX3) (T := TX3) (N := 8) hx hb hts inX3 hown hK hP 3 rfl rfl 2 (by decide) (hE.t m_115 rfl) (fun _ h9 => h9) rfl dX3_joinAll_11 ?_
  refine lv_iconst (v := (-1)) hx hb dX3_joinAll_14 (by decide) ?_
  have hPc := hP.sub (ws' := [(a 13, .inl (c0, 24, .inl cm))]) [13] rfl
  have hDc := hD.sub (ws' := [(a 13, .inl (c0, 24, .inl cm))]) [13] (by decide) rfl
  have hFc := fre1 hD hS hA (k := 13) (x := (a 13, .inl (c0, 24, .inl cm))) rfl
  refine va_callv (va_runS (As := [.ref (a 13), .int (-1)]) (rest := []) ⟨hx, hb, hml, hown, hts⟩ (c_fill l dC dI c0 (a 13) _ 24 cm (-1) (by omega)) (va_cwS 2 hts gX3_joinAll_J0_fill rfl rfl rfl (by decide +kernel) ⟨(Nat.le_of_ble_eq_true rfl), (Nat.le_of_ble_eq_true rfl)⟩) ⟨ini_blind, fill_give hPc hK hDc⟩ rfl rfl hl.1 rfl (lv_room (Nat.le_of_ble_eq_true rfl)) dX3_joinAll_15 ⟨by decide, by decide⟩) hS (fun q _ h => hFc q h) hFc (fun u t H1 locs ht hvm hw hB hz1 hk1 hS => ?_)
  obtain rfl := hw
  obtain ⟨hP, hD⟩ := fill_take (k := 13) hP hD rfl ht hk1 hB
  generalize H1 = H at hP hS ⊢
  have hP : va_P (dC, dI) vwCl (wX c0 a (n, wk, sd, bt, lt, lo, rk, ad, vl, bg, fil (fun _ => (-1)) cm 24, sp, gd, rf, ct, rd, 0, 0, sn, wl)) H := hP
  have hD : va_D A (wX c0 a (n, wk, sd, bt, lt, lo, rk, ad, vl, bg, fil (fun _ => (-1)) cm 24, sp, gd, rf, ct, rd, 0, 0, sn, wl)) := hD
  refine lv_iconst (v := 0) hx hb dX3_joinAll_18 (by decide) ?_
  refine lv_istore (lv' := [(4, .int 0), (0, .ref (a 3)), (1, .ref (a 1)), (2, .ref (a 2)), (3, .int z)]) hx hb dX3_joinAll_19 hl (by decide) rfl (fun ls hl => ?_)
  have hloop21 : ∀ (fu : Nat) (k : Nat), n + 1 ≤ k + fu → k ≤ n → jnE bt rk ad vl (fil (fun _ => (-1)) cm 24) ct n z (n - k) k = jnE bt rk ad vl (fil (fun _ => (-1)) cm 24) ct n z n 0 → ∀ (H : Heap) (locs : List Loc) (ls : Array Slot), va_P (dC, dI) vwCl (wX c0 a (n, wk, sd, bt, lt, lo, rk, ad, vl, bg, jnC rk ct (fil (fun _ => (-1)) cm 24) k, sp, gd, rf, ct, rd, jnS rk ad vl ct k, nI k, sn, wl)) H → va_D A (wX c0 a (n, wk, sd, bt, lt, lo, rk, ad, vl, bg, jnC rk ct (fil (fun _ => (-1)) cm 24) k, sp, gd, rf, ct, rd, jnS rk ad vl ct k, nI k, sn, wl)) → va_S A s.heap H locs → lv_has ls 5 [(0, .ref (a 3)), (1, .ref (a 1)), (2, .ref (a 2)), (3, .int z), (4, .int (nI k))] → W p l e (headSpec wsX3_joinAll ({ frames := 2, cells := 0, slots := 0, locals := 60 })).room s m ([.ref (a 3), .ref (a 1), .ref (a 2), .int z] : List Value).toArray below meth c H locs 0 0 Z (F0 m 21 ls []) := by
    intro fu
    induction fu with
    | zero =>
      intro k hfu hi hJ
      exact absurd hfu (by omega)
    | succ fu ih21 =>
      intro k hfu hi hJ H locs ls hP hD hS hl
      refine lv_iload hx hb dX3_joinAll_21 (lv_at hl 4 rfl) ?_
      refine lv_aload_n hx hb dX3_joinAll_23 rfl (lv_at hl 1 rfl) ?_
      refine va_getN (D := (dC, dI)) (ci := 1) (v := .int (nI n)) (C := RX1) (T := TX1) (N := 6) hx hb hts inX1 hown hK hP 1 rfl rfl 0 (by decide) (hE.t m_58 rfl) (fun _ h9 => h9) rfl dX3_joinAll_24 ?_
      refine lv_icmp_ge (tgt := 101) hx hb dX3_joinAll_27 (by decide) (fun c_27 => ?_) (fun c_27 => ?_)
      · skip
        have hie : k = n := by
          have h9 := (nI_leI (a := n) (b := k) (by omega) (by omega)).mp c_27
          omega
        rw [hie] at hP hD hl
        have hie2 : n - k = 0 := by omega
        rw [hie2, hie] at hJ
        refine lv_aload_n hx hb dX3_joinAll_101 rfl (lv_at hl 0 rfl) ?_
        refine lv_aload_n hx hb dX3_joinAll_102 rfl (lv_at hl 2 rfl) ?_
        refine lv_aload_n hx hb dX3_joinAll_103 rfl (lv_at hl 1 rfl) ?_
        refine va_getN (D := (dC, dI)) (ci := 1) (v := .int (nI n)) (C := RX1) (T := TX1) (N := 6) hx hb hts inX1 hown hK hP 1 rfl rfl 0 (by decide) (hE.t m_58 rfl) (fun _ h9 => h9) rfl dX3_joinAll_104 ?_
        have hFc := fre hD hS hA
        refine va_callv (va_runV (As := [.ref (a 2), .int (nI n)]) (rest := []) ⟨hx, hb, hml, hown, hts⟩ (c_X3_letIn l dC dI c0 a _ n wk sd bt lt lo rk ad vl bg (jnC rk ct (fil (fun _ => (-1)) cm 24) n) sp gd rf ct rd (jnS rk ad vl ct n) (nI n) sn wl (nI n) hct) (cwV 2 hts gX3_joinAll_X3_letIn rfl rfl rfl (by decide +kernel) ⟨(Nat.le_of_ble_eq_true rfl), (Nat.le_of_ble_eq_true rfl)⟩) ⟨PX_blind, va_recv hK hP (ci := 3) (q0 := 3) rfl rfl, PX_give hP hK hD hE hS hFc⟩ rfl rfl hl.1 rfl (lv_room (Nat.le_of_ble_eq_true rfl)) dX3_joinAll_107 ⟨by decide, by decide⟩) hS (fun q _ h => hFc q h) hFc (fun u t H1 locs ht hvm hw hB hz1 hk1 hS => ?_)
        obtain rfl := hw
        obtain ⟨hP, hD⟩ := PX_take ht hFc hB
        generalize H1 = H at hP hS ⊢
        have hP : va_P (dC, dI) vwCl (wX c0 a (n, wk, sd, bt, lt, lo, rk, ad, vl, bg, linC rk (nI n) (jnC rk ct (fil (fun _ => (-1)) cm 24) n) ct, sp, gd, rf, ct, rd, linS rk ad (nI n) (jnS rk ad vl ct n) ct, nI n, sn, wl)) H := hP
        have hD : va_D A (wX c0 a (n, wk, sd, bt, lt, lo, rk, ad, vl, bg, linC rk (nI n) (jnC rk ct (fil (fun _ => (-1)) cm 24) n) ct, sp, gd, rf, ct, rd, linS rk ad (nI n) (jnS rk ad vl ct n) ct, nI n, sn, wl)) := hD
        refine lv_iconst (v := (-1)) hx hb dX3_joinAll_110 (by decide) ?_
        rw [hZ]
        exact W.iret (v := (-1)) hx hb hr (fun t ht hW => ⟨⟨(-1), (n, wk, sd, bt, lt, lo, rk, ad, vl, bg, linC rk (nI n) (jnC rk ct (fil (fun _ => (-1)) cm 24) n) ct, sp, gd, rf, ct, rd, linS rk ad (nI n) (jnS rk ad vl ct n) ct, nI n, sn, wl), rfl, ⟨_, _, _, hJ.symm.trans rfl, rfl⟩, by rw [ht]; exact hP, va_K.moved hW.alike hK, hD⟩, hS.F ht⟩) hS.2.2 dX3_joinAll_111
      · skip
        have hlt : k < n := by
          rcases Nat.lt_or_ge k n with h9 | h9
          · exact h9
          · exact absurd (nI_le h9 (by omega)) c_27
        have hie2 : n - k = n - (k + 1) + 1 := by omega
        refine lv_iload hx hb dX3_joinAll_30 (lv_at hl 4 rfl) ?_
        refine lv_iload_n hx hb dX3_joinAll_32 rfl (lv_at hl 3 rfl) ?_
        refine lv_icmp_ne (tgt := 38) hx hb dX3_joinAll_33 (by decide) (fun c_33 => ?_) (fun c_33 => ?_)
        · skip
          refine lv_aload_n hx hb dX3_joinAll_38 rfl (lv_at hl 0 rfl) ?_
          refine lv_aload_n hx hb dX3_joinAll_39 rfl (lv_at hl 2 rfl) ?_
          refine lv_iload hx hb dX3_joinAll_40 (lv_at hl 4 rfl) ?_
          have hFc := fre hD hS hA
          refine va_callv (va_runV (As := [.ref (a 2), .int (nI k)]) (rest := []) ⟨hx, hb, hml, hown, hts⟩ (c_X3_letIn l dC dI c0 a _ n wk sd bt lt lo rk ad vl bg (jnC rk ct (fil (fun _ => (-1)) cm 24) k) sp gd rf ct rd (jnS rk ad vl ct k) (nI k) sn wl (nI k) hct) (cwV 2 hts gX3_joinAll_X3_letIn rfl rfl rfl (by decide +kernel) ⟨(Nat.le_of_ble_eq_true rfl), (Nat.le_of_ble_eq_true rfl)⟩) ⟨PX_blind, va_recv hK hP (ci := 3) (q0 := 3) rfl rfl, PX_give hP hK hD hE hS hFc⟩ rfl rfl hl.1 rfl (lv_room (Nat.le_of_ble_eq_true rfl)) dX3_joinAll_42 ⟨by decide, by decide⟩) hS (fun q _ h => hFc q h) hFc (fun u t H1 locs ht hvm hw hB hz1 hk1 hS => ?_)
          obtain rfl := hw
          obtain ⟨hP, hD⟩ := PX_take ht hFc hB
          generalize H1 = H at hP hS ⊢
          have hP : va_P (dC, dI) vwCl (wX c0 a (n, wk, sd, bt, lt, lo, rk, ad, vl, bg, linC rk (nI k) (jnC rk ct (fil (fun _ => (-1)) cm 24) k) ct, sp, gd, rf, ct, rd, linS rk ad (nI k) (jnS rk ad vl ct k) ct, nI k, sn, wl)) H := hP
          have hD : va_D A (wX c0 a (n, wk, sd, bt, lt, lo, rk, ad, vl, bg, linC rk (nI k) (jnC rk ct (fil (fun _ => (-1)) cm 24) k) ct, sp, gd, rf, ct, rd, linS rk ad (nI k) (jnS rk ad vl ct k) ct, nI k, sn, wl)) := hD
          refine lv_aload_n hx hb dX3_joinAll_45 rfl (lv_at hl 0 rfl) ?_
          refine lv_ldc2 hx hb (own := RX3) (v := 1000003) hown (hE.t m_350 rfl) dX3_joinAll_46 ?_
          refine lv_aload_n hx hb dX3_joinAll_49 rfl (lv_at hl 0 rfl) ?_
          refine va_get (D := (dC, dI)) (ci := 3) (v := .long (linS rk ad (nI k) (jnS rk ad vl ct k) ct)) (C := RX3) (T := TX3) (N := 8) hx hb hts inX3 hown hK hP 3 rfl rfl 4 (by decide) (hE.t m_119 rfl) (fun _ h9 => h9) rfl dX3_joinAll_50 ?_
          refine lv_lmul hx hb dX3_joinAll_53 ?_
          refine lv_aload_n hx hb dX3_joinAll_54 rfl (lv_at hl 0 rfl) ?_
          refine va_get (D := (dC, dI)) (ci := 3) (v := .ref (a 11)) (C := RX3) (T := TX3) (N := 8) hx hb hts inX3 hown hK hP 3 rfl rfl 0 (by decide) (hE.t m_111 rfl) (fun _ h9 => h9) rfl dX3_joinAll_55 ?_
          refine lv_iload hx hb dX3_joinAll_58 (lv_at hl 4 rfl) ?_
          refine va_iald hx hb hK hP 11 0 rfl rfl (vp_in_nI (by omega) (by omega)) dX3_joinAll_60 ?_
          rw [nI_clamp (n := k) (by omega)]
          refine lv_i2l hx hb dX3_joinAll_61 (v := (vl k).toInt64) rfl ?_
          refine lv_ladd hx hb dX3_joinAll_62 ?_
          refine va_put (D := (dC, dI)) (ci := 3) (v := .long ((1000003 * (linS rk ad (nI k) (jnS rk ad vl ct k) ct)) + ((vl k).toInt64))) (ty := .long) (C := RX3) (T := TX3) (N := 8) hx hb hts inX3 tyX3 tyX3_ok nmX3 hown hK hP hD hS 3 rfl rfl 4 (by decide) (hE.t m_119 rfl) (fun _ h9 => h9) rfl (by decide +kernel) rfl rfl (Nat.le_of_ble_eq_true rfl) dX3_joinAll_63 (fun H locs hP hD hS => ?_)
          have hP : va_P (dC, dI) vwCl (wX c0 a (n, wk, sd, bt, lt, lo, rk, ad, vl, bg, linC rk (nI k) (jnC rk ct (fil (fun _ => (-1)) cm 24) k) ct, sp, gd, rf, ct, rd, (1000003 * (linS rk ad (nI k) (jnS rk ad vl ct k) ct)) + ((vl k).toInt64), nI k, sn, wl)) H := hP
          have hD : va_D A (wX c0 a (n, wk, sd, bt, lt, lo, rk, ad, vl, bg, linC rk (nI k) (jnC rk ct (fil (fun _ => (-1)) cm 24) k) ct, sp, gd, rf, ct, rd, (1000003 * (linS rk ad (nI k) (jnS rk ad vl ct k) ct)) + ((vl k).toInt64), nI k, sn, wl)) := hD
          refine lv_aload_n hx hb dX3_joinAll_66 rfl (lv_at hl 0 rfl) ?_
          refine lv_dup hx hb dX3_joinAll_67 rfl ?_
          refine va_get (D := (dC, dI)) (ci := 3) (v := .int (nI k)) (C := RX3) (T := TX3) (N := 8) hx hb hts inX3 hown hK hP 3 rfl rfl 5 (by decide) (hE.t m_121 rfl) (fun _ h9 => h9) rfl dX3_joinAll_68 ?_
          refine lv_iconst (v := 1) hx hb dX3_joinAll_71 (by decide) ?_
          refine lv_iadd hx hb dX3_joinAll_72 ?_
          rw [nI_1]
          refine va_put (D := (dC, dI)) (ci := 3) (v := .int (nI (k + 1))) (ty := .int) (C := RX3) (T := TX3) (N := 8) hx hb hts inX3 tyX3 tyX3_ok nmX3 hown hK hP hD hS 3 rfl rfl 5 (by decide) (hE.t m_121 rfl) (fun _ h9 => h9) rfl (by decide +kernel) rfl rfl (Nat.le_of_ble_eq_true rfl) dX3_joinAll_73 (fun H locs hP hD hS => ?_)
          have hP : va_P (dC, dI) vwCl (wX c0 a (n, wk, sd, bt, lt, lo, rk, ad, vl, bg, linC rk (nI k) (jnC rk ct (fil (fun _ => (-1)) cm 24) k) ct, sp, gd, rf, ct, rd, (1000003 * (linS rk ad (nI k) (jnS rk ad vl ct k) ct)) + ((vl k).toInt64), nI (k + 1), sn, wl)) H := hP
          have hD : va_D A (wX c0 a (n, wk, sd, bt, lt, lo, rk, ad, vl, bg, linC rk (nI k) (jnC rk ct (fil (fun _ => (-1)) cm 24) k) ct, sp, gd, rf, ct, rd, (1000003 * (linS rk ad (nI k) (jnS rk ad vl ct k) ct)) + ((vl k).toInt64), nI (k + 1), sn, wl)) := hD
          refine lv_aload_n hx hb dX3_joinAll_76 rfl (lv_at hl 1 rfl) ?_
          refine lv_iload hx hb dX3_joinAll_77 (lv_at hl 4 rfl) ?_
          refine lv_aload_n hx hb dX3_joinAll_79 rfl (lv_at hl 0 rfl) ?_
          refine va_get (D := (dC, dI)) (ci := 3) (v := .ref (a 11)) (C := RX3) (T := TX3) (N := 8) hx hb hts inX3 hown hK hP 3 rfl rfl 0 (by decide) (hE.t m_111 rfl) (fun _ h9 => h9) rfl dX3_joinAll_80 ?_
          refine lv_iload hx hb dX3_joinAll_83 (lv_at hl 4 rfl) ?_
          refine va_iald hx hb hK hP 11 0 rfl rfl (vp_in_nI (by omega) (by omega)) dX3_joinAll_85 ?_
          rw [nI_clamp (n := k) (by omega)]
          have hFc := fre hD hS hA
          refine va_calli (va_runVN (As := [.int (nI k), .int (vl k)]) (rest := []) ⟨hx, hb, hml, hown, hts⟩ (c_X1_settles l dC dI c0 a _ n wk sd bt lt lo rk ad vl bg (linC rk (nI k) (jnC rk ct (fil (fun _ => (-1)) cm 24) k) ct) sp gd rf ct rd ((1000003 * (linS rk ad (nI k) (jnS rk ad vl ct k) ct)) + ((vl k).toInt64)) (nI (k + 1)) sn wl (nI k) (vl k) (vp_in_nI (by omega) (by omega))) ⟨va_cnB (host := "DrawShares") 2 hts gX3_joinAll_X1_settles rfl rfl rfl (hE.t0 m_351 rfl) (hE.t m_23 rfl) (by decide +kernel) ⟨(Nat.le_of_ble_eq_true rfl), (Nat.le_of_ble_eq_true rfl)⟩, hE.t m_353 rfl, hE.t m_10 rfl⟩ ⟨PX_blind, va_recv hK hP (ci := 1) (q0 := 1) rfl rfl, PX_give hP hK hD hE hS hFc⟩ rfl rfl hl.1 rfl (lv_room (Nat.le_of_ble_eq_true rfl)) dX3_joinAll_86 ⟨by decide, by decide⟩) hS (fun q _ h => hFc q h) hFc (fun r_86 u t H1 locs ht hvm hw hB hz1 hk1 hS => ?_)
          obtain ⟨rfl, rfl⟩ := hw
          obtain ⟨hP, hD⟩ := PX_take ht hFc hB
          generalize H1 = H at hP hS ⊢
          have hP : va_P (dC, dI) vwCl (wX c0 a (n, wk, sd, bt, lt, lo, rk, ad, vl, bg, linC rk (nI k) (jnC rk ct (fil (fun _ => (-1)) cm 24) k) ct, sp, gd, rf, ct, rd, (1000003 * (linS rk ad (nI k) (jnS rk ad vl ct k) ct)) + ((vl k).toInt64), nI (k + 1), sn, wl)) H := hP
          have hD : va_D A (wX c0 a (n, wk, sd, bt, lt, lo, rk, ad, vl, bg, linC rk (nI k) (jnC rk ct (fil (fun _ => (-1)) cm 24) k) ct, sp, gd, rf, ct, rd, (1000003 * (linS rk ad (nI k) (jnS rk ad vl ct k) ct)) + ((vl k).toInt64), nI (k + 1), sn, wl)) := hD
          rw [nI_clamp (n := k) (by omega)]
          refine lv_if_eq (tgt := 95) hx hb dX3_joinAll_89 (by decide) (fun c_89 => ?_) (fun c_89 => ?_)
          · skip
            refine lv_iinc (v := nI (k + 1)) (lv' := [(4, .int (nI (k + 1))), (0, .ref (a 3)), (1, .ref (a 1)), (2, .ref (a 2)), (3, .int z)]) hx hb dX3_joinAll_95 hl (k := 4) rfl (by rw [← nI_1]; rfl) (by decide) rfl (fun ls hl => ?_)
            refine lv_goto (tgt := 21) hx hb dX3_joinAll_98 (by decide) ?_
            have hJ2 : jnE bt rk ad vl (fil (fun _ => (-1)) cm 24) ct n z (n - (k + 1)) (k + 1) = jnE bt rk ad vl (fil (fun _ => (-1)) cm 24) ct n z n 0 := by
              rw [← hJ, hie2]; simp only [jnE, c_33, c_89, ↓reduceIte]
            exact ih21 (k + 1) (by omega) (by omega) hJ2 _ _ _ hP hD hS (lv_sub hl [1, 2, 3, 4, 0] rfl)
          · skip
            refine lv_iload hx hb dX3_joinAll_92 (lv_at hl 4 rfl) ?_
            rw [hZ]
            exact W.iret (v := nI k) hx hb hr (fun t ht hW => ⟨⟨nI k, (n, wk, sd, bt, lt, lo, rk, ad, vl, bg, linC rk (nI k) (jnC rk ct (fil (fun _ => (-1)) cm 24) k) ct, sp, gd, rf, ct, rd, (1000003 * (linS rk ad (nI k) (jnS rk ad vl ct k) ct)) + ((vl k).toInt64), nI (k + 1), sn, wl), rfl, ⟨_, _, _, hJ.symm.trans (by rw [hie2]; simp only [jnE, c_33, c_89, ↓reduceIte]; try rfl), rfl⟩, by rw [ht]; exact hP, va_K.moved hW.alike hK, hD⟩, hS.F ht⟩) hS.2.2 dX3_joinAll_94
        · skip
          refine lv_iconst (v := (-1)) hx hb dX3_joinAll_36 (by decide) ?_
          rw [hZ]
          exact W.iret (v := (-1)) hx hb hr (fun t ht hW => ⟨⟨(-1), (n, wk, sd, bt, lt, lo, rk, ad, vl, bg, jnC rk ct (fil (fun _ => (-1)) cm 24) k, sp, gd, rf, ct, rd, jnS rk ad vl ct k, nI k, sn, wl), rfl, ⟨_, _, _, hJ.symm.trans (by rw [hie2]; simp only [jnE, eq_true c_33, ↓reduceIte]; try rfl), rfl⟩, by rw [ht]; exact hP, va_K.moved hW.alike hK, hD⟩, hS.F ht⟩) hS.2.2 dX3_joinAll_37
  have hP : va_P (dC, dI) vwCl (wX c0 a (n, wk, sd, bt, lt, lo, rk, ad, vl, bg, jnC rk ct (fil (fun _ => (-1)) cm 24) 0, sp, gd, rf, ct, rd, jnS rk ad vl ct 0, nI 0, sn, wl)) H := by rw [nI_0]; exact hP
  have hD : va_D A (wX c0 a (n, wk, sd, bt, lt, lo, rk, ad, vl, bg, jnC rk ct (fil (fun _ => (-1)) cm 24) 0, sp, gd, rf, ct, rd, jnS rk ad vl ct 0, nI 0, sn, wl)) := by rw [nI_0]; exact hD
  have hl0 : lv_has ls 5 [(0, .ref (a 3)), (1, .ref (a 1)), (2, .ref (a 2)), (3, .int z), (4, .int (nI 0))] := by
    rw [nI_0]; exact lv_sub hl [1, 2, 3, 4, 0] rfl
  exact hloop21 (n + 1) 0 (by omega) (by omega) rfl _ _ _ hP hD hS hl0
end
section
set_option maxHeartbeats 4000000 in
set_option maxRecDepth 100000 in
/-- needShare(k) -/
theorem c_X0_needShare (l : Launch) (hl9 : l.stackTraces = false) (dC : Nat → ClassId) (dI : Nat → Nat → Nat) (c0 : ClassId) (a : Nat → Nat) (sz : Nat) (n : Nat) (wk sd bt lt lo rk ad vl bg cm : Nat → Int32) (sp gd rf : Int32) (ct : Nat) (rd : Int32) (sm : Int64) (js sn wl : Int32) (k : Int32) : vx_Met l yX0_needShare wsX0_needShare ({ frames := 6, cells := 1, slots := 6, locals := 82 }) (va_Pc [.ref (a 0), .int k] (PX dC dI c0 a (n, wk, sd, bt, lt, lo, rk, ad, vl, bg, cm, sp, gd, rf, ct, rd, sm, js, sn, wl) sz)) (va_Qv (fun (u : xS) => (¬ k < 0 ∧ k < nI n) ∧ u = (n, wk, sd, bt, lt, lo, rk, ad, vl, bg, cm, sp, gd, rf, ct, rd, sm, js, sn, wl)) (BX dC dI c0 a (va_A (wX c0 a (n, wk, sd, bt, lt, lo, rk, ad, vl, bg, cm, sp, gd, rf, ct, rd, sm, js, sn, wl)) sz)) (va_A (wX c0 a (n, wk, sd, bt, lt, lo, rk, ad, vl, bg, cm, sp, gd, rf, ct, rd, sm, js, sn, wl)) sz)) (vx_X (fun _ : Unit => True) (fun (E : String) (_ : Unit) t => (E = "java/lang/IndexOutOfBoundsException" ∧ (k < 0 ∨ ¬ k < nI n)) ∧ BX dC dI c0 a (va_A (wX c0 a (n, wk, sd, bt, lt, lo, rk, ad, vl, bg, cm, sp, gd, rf, ct, rd, sm, js, sn, wl)) sz) (n, wk, sd, bt, lt, lo, rk, ad, vl, bg, cm, sp, gd, rf, ct, rd, sm, js, sn, wl) t) (va_A (wX c0 a (n, wk, sd, bt, lt, lo, rk, ad, vl, bg, cm, sp, gd, rf, ct, rd, sm, js, sn, wl)) sz)) 1 6 (va_A (wX c0 a (n, wk, sd, bt, lt, lo, rk, ad, vl, bg, cm, sp, gd, rf, ct, rd, sm, js, sn, wl)) sz) := by
  refine vx_ofW (cc := cX0_needShare) (maxL := 2) (ret := none) (by decide) rfl ?_
  intro p e s m args below meth c s₁ B hml hne hv
  obtain ⟨rfl, hsz, hP, hK, hD0, hE⟩ := hv
  have hx := B.exec
  have hb := B.bytes
  have hr := B.returns
  have hown : s.vm.findClass RX0 = some m.cls := findClass_of_methodNamed B.named
  have hlocks := B.notSynchronized
  subst hsz
  have hD := hD0.self (sz := s.heap.size)
  generalize hAe : va_A (wX c0 a (n, wk, sd, bt, lt, lo, rk, ad, vl, bg, cm, sp, gd, rf, ct, rd, sm, js, sn, wl)) s.heap.size = A at hD hE ⊢
  have hts := hE.ts (args := ([.ref (a 0), .int k] : List Value).toArray)
  have hA : ∀ q : Nat, s.heap.size ≤ q → A q := fun q h => by rw [← hAe]; exact Or.inr h
  have hS : va_S A s.heap s.heap [] := va_S.rf
  have hP : va_P (dC, dI) vwCl (wX c0 a (n, wk, sd, bt, lt, lo, rk, ad, vl, bg, cm, sp, gd, rf, ct, rd, sm, js, sn, wl)) s.heap := hP
  have hl := lv_entry ([.ref (a 0), .int k]) (n := 2) (Nat.le_of_ble_eq_true rfl)
  rw [lg_entry_eq]
  generalize (lg_sl ([.ref (a 0), .int k]) ++ List.replicate (2 - (lg_sl ([.ref (a 0), .int k])).length) Slot.unset).toArray = ls at hl ⊢
  have hl : lv_has ls 2 [(0, .ref (a 0)), (1, .int k)] := hl
  refine lv_iload_n hx hb dX0_needShare_0 rfl (lv_at hl 1 rfl) ?_
  refine lv_if_lt (tgt := 15) hx hb dX0_needShare_1 (by decide) (fun c_1 => ?_) (fun c_1 => ?_)
  · skip
    obtain ⟨sa, hsa⟩ := hE.st (RX0, 151, "there is no such share") (by decide)
    exact vx_throwS (own := RX0) (cls := "java/lang/IndexOutOfBoundsException") (text := "there is no such share") (names := ["java/lang/RuntimeException", "java/lang/Exception"]) (ik := 80) (is := 151) (ic := 84) hx hb hl9 hown (by decide +kernel) (by decide +kernel) (hE.t m_178 rfl) (hE.t m_31 rfl) hsa (vx_hat (L := (vx_atS RX0 84 "java/lang/IndexOutOfBoundsException" ["java/lang/RuntimeException", "java/lang/Exception"])) (B := [.castable "java/lang/IndexOutOfBoundsException" "java/lang/IndexOutOfBoundsException", .declares ⟨"java/lang/RuntimeException", "<init>", "(Ljava/lang/String;)V"⟩, .declares ⟨"java/lang/Exception", "<init>", "(Ljava/lang/String;)V"⟩, .declares ⟨"java/lang/Throwable", "<init>", "(Ljava/lang/String;)V"⟩]) (fun w hw => hts w (List.mem_filter.mpr ⟨at_X0_IndexOutOfBoundsException w hw, (List.mem_filter.mp hw).2⟩)) ab_X0_IndexOutOfBoundsException (vx_c (hE.t m_180 rfl) (vx_c (hE.t m_182 rfl) (vx_c (hE.t m_184 rfl) (vx_c (hE.t m_186 rfl) vx_n))))) gd_X0_IndexOutOfBoundsException hE.zu hE.zn hS (by rw [hml]; exact hl.1) dX0_needShare_15 dX0_needShare_18 dX0_needShare_19 dX0_needShare_21 dX0_needShare_24 (fun x hx => (hne x hx).elim) (by decide) (by decide) (by decide) (by decide) hlocks (fun t hvm h1 h2 => ⟨(), trivial, ⟨⟨rfl, Or.inl c_1⟩, (thr_B hP hK hD hS hvm h1 h2).1⟩, (thr_B hP hK hD hS hvm h1 h2).2⟩) hS.2.2 (by decide) (by decide)
  · skip
    refine lv_iload_n hx hb dX0_needShare_4 rfl (lv_at hl 1 rfl) ?_
    refine lv_aload_n hx hb dX0_needShare_5 rfl (lv_at hl 0 rfl) ?_
    refine va_get (D := (dC, dI)) (ci := 0) (v := .ref (a 1)) (C := RX0) (T := TX0) (N := 6) hx hb hts inX0 hown hK hP 0 rfl rfl 0 (by decide) (hE.t m_143 rfl) (fun _ h9 => h9) rfl dX0_needShare_6 ?_
    refine va_getN (D := (dC, dI)) (ci := 1) (v := .int (nI n)) (C := RX1) (T := TX1) (N := 6) hx hb hts inX1 hown hK hP 1 rfl rfl 0 (by decide) (hE.t m_59 rfl) (fun _ h9 => h9) rfl dX0_needShare_9 ?_
    refine lv_icmp_lt (tgt := 25) hx hb dX0_needShare_12 (by decide) (fun c_12 => ?_) (fun c_12 => ?_)
    · skip
      refine vx_ret ?_
      refine W.widen (k := 1) (n := 6) (by omega) (by omega) ?_
      exact W.vret hx hb hr (fun t ht hW => ⟨⟨(n, wk, sd, bt, lt, lo, rk, ad, vl, bg, cm, sp, gd, rf, ct, rd, sm, js, sn, wl), rfl, ⟨⟨c_1, c_12⟩, rfl⟩, by rw [ht]; exact hP, va_K.moved hW.alike hK, hD⟩, hS.F ht⟩) hS.2.2 dX0_needShare_25
    · skip
      obtain ⟨sa, hsa⟩ := hE.st (RX0, 151, "there is no such share") (by decide)
      exact vx_throwS (own := RX0) (cls := "java/lang/IndexOutOfBoundsException") (text := "there is no such share") (names := ["java/lang/RuntimeException", "java/lang/Exception"]) (ik := 80) (is := 151) (ic := 84) hx hb hl9 hown (by decide +kernel) (by decide +kernel) (hE.t m_178 rfl) (hE.t m_31 rfl) hsa (vx_hat (L := (vx_atS RX0 84 "java/lang/IndexOutOfBoundsException" ["java/lang/RuntimeException", "java/lang/Exception"])) (B := [.castable "java/lang/IndexOutOfBoundsException" "java/lang/IndexOutOfBoundsException", .declares ⟨"java/lang/RuntimeException", "<init>", "(Ljava/lang/String;)V"⟩, .declares ⟨"java/lang/Exception", "<init>", "(Ljava/lang/String;)V"⟩, .declares ⟨"java/lang/Throwable", "<init>", "(Ljava/lang/String;)V"⟩]) (fun w hw => hts w (List.mem_filter.mpr ⟨at_X0_IndexOutOfBoundsException w hw, (List.mem_filter.mp hw).2⟩)) ab_X0_IndexOutOfBoundsException (vx_c (hE.t m_180 rfl) (vx_c (hE.t m_182 rfl) (vx_c (hE.t m_184 rfl) (vx_c (hE.t m_186 rfl) vx_n))))) gd_X0_IndexOutOfBoundsException hE.zu hE.zn hS (by rw [hml]; exact hl.1) dX0_needShare_15 dX0_needShare_18 dX0_needShare_19 dX0_needShare_21 dX0_needShare_24 (fun x hx => (hne x hx).elim) (by decide) (by decide) (by decide) (by decide) hlocks (fun t hvm h1 h2 => ⟨(), trivial, ⟨⟨rfl, Or.inr c_12⟩, (thr_B hP hK hD hS hvm h1 h2).1⟩, (thr_B hP hK hD hS hvm h1 h2).2⟩) hS.2.2 (by decide) (by decide)
set_option maxHeartbeats 4000000 in
set_option maxRecDepth 100000 in
/-- needRun() -/
theorem c_X0_needRun (l : Launch) (hl9 : l.stackTraces = false) (dC : Nat → ClassId) (dI : Nat → Nat → Nat) (c0 : ClassId) (a : Nat → Nat) (sz : Nat) (n : Nat) (wk sd bt lt lo rk ad vl bg cm : Nat → Int32) (sp gd rf : Int32) (ct : Nat) (rd : Int32) (sm : Int64) (js sn wl : Int32) : vx_Met l yX0_needRun wsX0_needRun ({ frames := 6, cells := 1, slots := 6, locals := 82 }) (va_Pc [.ref (a 0)] (PX dC dI c0 a (n, wk, sd, bt, lt, lo, rk, ad, vl, bg, cm, sp, gd, rf, ct, rd, sm, js, sn, wl) sz)) (va_Qv (fun (u : xS) => ¬ rd = 0 ∧ u = (n, wk, sd, bt, lt, lo, rk, ad, vl, bg, cm, sp, gd, rf, ct, rd, sm, js, sn, wl)) (BX dC dI c0 a (va_A (wX c0 a (n, wk, sd, bt, lt, lo, rk, ad, vl, bg, cm, sp, gd, rf, ct, rd, sm, js, sn, wl)) sz)) (va_A (wX c0 a (n, wk, sd, bt, lt, lo, rk, ad, vl, bg, cm, sp, gd, rf, ct, rd, sm, js, sn, wl)) sz)) (vx_X (fun _ : Unit => True) (fun (E : String) (_ : Unit) t => (E = "java/lang/IllegalStateException" ∧ rd = 0) ∧ BX dC dI c0 a (va_A (wX c0 a (n, wk, sd, bt, lt, lo, rk, ad, vl, bg, cm, sp, gd, rf, ct, rd, sm, js, sn, wl)) sz) (n, wk, sd, bt, lt, lo, rk, ad, vl, bg, cm, sp, gd, rf, ct, rd, sm, js, sn, wl) t) (va_A (wX c0 a (n, wk, sd, bt, lt, lo, rk, ad, vl, bg, cm, sp, gd, rf, ct, rd, sm, js, sn, wl)) sz)) 1 6 (va_A (wX c0 a (n, wk, sd, bt, lt, lo, rk, ad, vl, bg, cm, sp, gd, rf, ct, rd, sm, js, sn, wl)) sz) := by
  refine vx_ofW (cc := cX0_needRun) (maxL := 1) (ret := none) (by decide) rfl ?_
  intro p e s m args below meth c s₁ B hml hne hv
  obtain ⟨rfl, hsz, hP, hK, hD0, hE⟩ := hv
  have hx := B.exec
  have hb := B.bytes
  have hr := B.returns
  have hown : s.vm.findClass RX0 = some m.cls := findClass_of_methodNamed B.named
  have hlocks := B.notSynchronized
  subst hsz
  have hD := hD0.self (sz := s.heap.size)
  generalize hAe : va_A (wX c0 a (n, wk, sd, bt, lt, lo, rk, ad, vl, bg, cm, sp, gd, rf, ct, rd, sm, js, sn, wl)) s.heap.size = A at hD hE ⊢
  have hts := hE.ts (args := ([.ref (a 0)] : List Value).toArray)
  have hA : ∀ q : Nat, s.heap.size ≤ q → A q := fun q h => by rw [← hAe]; exact Or.inr h
  have hS : va_S A s.heap s.heap [] := va_S.rf
  have hP : va_P (dC, dI) vwCl (wX c0 a (n, wk, sd, bt, lt, lo, rk, ad, vl, bg, cm, sp, gd, rf, ct, rd, sm, js, sn, wl)) s.heap := hP
  have hl := lv_entry ([.ref (a 0)]) (n := 1) (Nat.le_of_ble_eq_true rfl)
  rw [lg_entry_eq]
  generalize (lg_sl ([.ref (a 0)]) ++ List.replicate (1 - (lg_sl ([.ref (a 0)])).length) Slot.unset).toArray = ls at hl ⊢
  have hl : lv_has ls 1 [(0, .ref (a 0))] := hl
  refine lv_aload_n hx hb dX0_needRun_0 rfl (lv_at hl 0 rfl) ?_
  refine va_get (D := (dC, dI)) (ci := 0) (v := .ref (a 3)) (C := RX0) (T := TX0) (N := 6) hx hb hts inX0 hown hK hP 0 rfl rfl 2 (by decide) (hE.t m_145 rfl) (fun _ h9 => h9) rfl dX0_needRun_1 ?_
  refine va_getN (D := (dC, dI)) (ci := 3) (v := .int rd) (C := RX3) (T := TX3) (N := 8) hx hb hts inX3 hown hK hP 3 rfl rfl 3 (by decide) (hE.t m_118 rfl) (fun _ h9 => h9) rfl dX0_needRun_4 ?_
  refine lv_if_ne (tgt := 20) hx hb dX0_needRun_7 (by decide) (fun c_7 => ?_) (fun c_7 => ?_)
  · skip
    refine vx_ret ?_
    refine W.widen (k := 1) (n := 6) (by omega) (by omega) ?_
    exact W.vret hx hb hr (fun t ht hW => ⟨⟨(n, wk, sd, bt, lt, lo, rk, ad, vl, bg, cm, sp, gd, rf, ct, rd, sm, js, sn, wl), rfl, ⟨c_7, rfl⟩, by rw [ht]; exact hP, va_K.moved hW.alike hK, hD⟩, hS.F ht⟩) hS.2.2 dX0_needRun_20
  · skip
    obtain ⟨sa, hsa⟩ := hE.st (RX0, 157, "there was no run that was not refused") (by decide)
    exact vx_throwS (own := RX0) (cls := "java/lang/IllegalStateException") (text := "there was no run that was not refused") (names := ["java/lang/RuntimeException", "java/lang/Exception"]) (ik := 86) (is := 157) (ic := 90) hx hb hl9 hown (by decide +kernel) (by decide +kernel) (hE.t m_281 rfl) (hE.t m_33 rfl) hsa (vx_hat (L := (vx_atS RX0 90 "java/lang/IllegalStateException" ["java/lang/RuntimeException", "java/lang/Exception"])) (B := [.castable "java/lang/IllegalStateException" "java/lang/IllegalStateException", .declares ⟨"java/lang/RuntimeException", "<init>", "(Ljava/lang/String;)V"⟩, .declares ⟨"java/lang/Exception", "<init>", "(Ljava/lang/String;)V"⟩, .declares ⟨"java/lang/Throwable", "<init>", "(Ljava/lang/String;)V"⟩]) (fun w hw => hts w (List.mem_filter.mpr ⟨at_X0_IllegalStateException w hw, (List.mem_filter.mp hw).2⟩)) ab_X0_IllegalStateException (vx_c (hE.t m_283 rfl) (vx_c (hE.t m_182 rfl) (vx_c (hE.t m_184 rfl) (vx_c (hE.t m_186 rfl) vx_n))))) gd_X0_IllegalStateException hE.zu hE.zn hS (by rw [hml]; exact hl.1) dX0_needRun_10 dX0_needRun_13 dX0_needRun_14 dX0_needRun_16 dX0_needRun_19 (fun x hx => (hne x hx).elim) (by decide) (by decide) (by decide) (by decide) hlocks (fun t hvm h1 h2 => ⟨(), trivial, ⟨⟨rfl, by simpa using c_7⟩, (thr_B hP hK hD hS hvm h1 h2).1⟩, (thr_B hP hK hD hS hvm h1 h2).2⟩) hS.2.2 (by decide) (by decide)
set_option maxHeartbeats 4000000 in
set_option maxRecDepth 100000 in
/-- share -/
theorem c_X0_share (l : Launch) (hl9 : l.stackTraces = false) (dC : Nat → ClassId) (dI : Nat → Nat → Nat) (c0 : ClassId) (a : Nat → Nat) (sz : Nat) (n : Nat) (wk sd bt lt lo rk ad vl bg cm : Nat → Int32) (sp gd rf : Int32) (ct : Nat) (rd : Int32) (sm : Int64) (js sn wl : Int32) (k : Int32) (w : Int32) (x : Int32) (b : Int32) (hn : n ≤ 40) : vx_Met l yX0_share wsX0_share ({ frames := 7, cells := 2, slots := 12, locals := 103 }) (va_Pc [.ref (a 0), .int k, .int w, .int x, .int b] (PX dC dI c0 a (n, wk, sd, bt, lt, lo, rk, ad, vl, bg, cm, sp, gd, rf, ct, rd, sm, js, sn, wl) sz)) (va_Qi (fun (r : Int32) (u : xS) => f_share (n, wk, sd, bt, lt, lo, rk, ad, vl, bg, cm, sp, gd, rf, ct, rd, sm, js, sn, wl) k w x b = (0, r.toInt64, u)) (BX dC dI c0 a (va_A (wX c0 a (n, wk, sd, bt, lt, lo, rk, ad, vl, bg, cm, sp, gd, rf, ct, rd, sm, js, sn, wl)) sz)) (va_A (wX c0 a (n, wk, sd, bt, lt, lo, rk, ad, vl, bg, cm, sp, gd, rf, ct, rd, sm, js, sn, wl)) sz)) (vx_X (fun _ : Unit => True) (fun (E : String) (_ : Unit) t => ((E = "java/lang/IndexOutOfBoundsException" ∧ f_share (n, wk, sd, bt, lt, lo, rk, ad, vl, bg, cm, sp, gd, rf, ct, rd, sm, js, sn, wl) k w x b = (1, 0, (n, wk, sd, bt, lt, lo, rk, ad, vl, bg, cm, sp, gd, rf, ct, rd, sm, js, sn, wl))) ∨ (E = "java/lang/IllegalArgumentException" ∧ f_share (n, wk, sd, bt, lt, lo, rk, ad, vl, bg, cm, sp, gd, rf, ct, rd, sm, js, sn, wl) k w x b = (2, 0, (n, wk, sd, bt, lt, lo, rk, ad, vl, bg, cm, sp, gd, rf, ct, rd, sm, js, sn, wl)))) ∧ BX dC dI c0 a (va_A (wX c0 a (n, wk, sd, bt, lt, lo, rk, ad, vl, bg, cm, sp, gd, rf, ct, rd, sm, js, sn, wl)) sz) (n, wk, sd, bt, lt, lo, rk, ad, vl, bg, cm, sp, gd, rf, ct, rd, sm, js, sn, wl) t) (va_A (wX c0 a (n, wk, sd, bt, lt, lo, rk, ad, vl, bg, cm, sp, gd, rf, ct, rd, sm, js, sn, wl)) sz)) 2 12 (va_A (wX c0 a (n, wk, sd, bt, lt, lo, rk, ad, vl, bg, cm, sp, gd, rf, ct, rd, sm, js, sn, wl)) sz) := by
  refine vx_ofW (cc := cX0_share) (maxL := 6) (ret := (some .int)) (by decide) rfl ?_
  intro p e s m args below meth c s₁ B hml hne hv
  obtain ⟨rfl, hsz, hP, hK, hD0, hE⟩ := hv
  have hx := B.exec
  have hb := B.bytes
  have hr := B.returns
  have hown : s.vm.findClass RX0 = some m.cls := findClass_of_methodNamed B.named
  have hlocks := B.notSynchronized
  subst hsz
  have hD := hD0.self (sz := s.heap.size)
  generalize hAe : va_A (wX c0 a (n, wk, sd, bt, lt, lo, rk, ad, vl, bg, cm, sp, gd, rf, ct, rd, sm, js, sn, wl)) s.heap.size = A at hD hE ⊢
  have hts := hE.ts (args := ([.ref (a 0), .int k, .int w, .int x, .int b] : List Value).toArray)
  have hA : ∀ q : Nat, s.heap.size ≤ q → A q := fun q h => by rw [← hAe]; exact Or.inr h
  have hS : va_S A s.heap s.heap [] := va_S.rf
  have hP : va_P (dC, dI) vwCl (wX c0 a (n, wk, sd, bt, lt, lo, rk, ad, vl, bg, cm, sp, gd, rf, ct, rd, sm, js, sn, wl)) s.heap := hP
  have hl := lv_entry ([.ref (a 0), .int k, .int w, .int x, .int b]) (n := 6) (Nat.le_of_ble_eq_true rfl)
  rw [lg_entry_eq]
  generalize (lg_sl ([.ref (a 0), .int k, .int w, .int x, .int b]) ++ List.replicate (6 - (lg_sl ([.ref (a 0), .int k, .int w, .int x, .int b])).length) Slot.unset).toArray = ls at hl ⊢
  have hl : lv_has ls 6 [(0, .ref (a 0)), (1, .int k), (2, .int w), (3, .int x), (4, .int b)] := hl
  refine lv_aload_n hx hb dX0_share_0 rfl (lv_at hl 0 rfl) ?_
  refine lv_iload_n hx hb dX0_share_1 rfl (lv_at hl 1 rfl) ?_
  have hFc := fre hD hS hA
  refine vx_callv (vx_runV (As := [.int k]) (rest := []) ⟨hx, hb, hml, hown, hts⟩ (c_X0_needShare l hl9 dC dI c0 a _ n wk sd bt lt lo rk ad vl bg cm sp gd rf ct rd sm js sn wl k) (cwV 1 hts gX0_share_X0_needShare rfl rfl rfl (by decide +kernel) ⟨(Nat.le_of_ble_eq_true rfl), (Nat.le_of_ble_eq_true rfl)⟩) ⟨PX_blind, va_recv hK hP (ci := 0) (q0 := 0) rfl rfl, PX_give hP hK hD hE hS hFc⟩ rfl rfl hl.1 rfl (lv_room (Nat.le_of_ble_eq_true rfl)) dX0_share_2 ⟨by decide, by decide⟩) hS (fun q _ h => hFc q h) hFc (fun q _ h => hFc q h) (fun E ce q9 u t H1 locs ht hvm hw hB hz1 hk1 hS hce hcv hcl => ?_) (fun u t H1 locs ht hvm hw hB hz1 hk1 hS => ?_)
  · skip
    obtain ⟨hEE, hB⟩ := hB
    obtain ⟨hP, hD⟩ := PX_take ht hFc hB
    exact vx_out (E := E) (fun x hx => (hne x hx).elim) hlocks hce hcv hcl (fun t ht ha => ⟨(), trivial, ⟨Or.inl ⟨hEE.1, (by rcases hEE.2 with h9 | h9 <;> simp only [f_share, h9, ↓reduceIte, ite_self])⟩, by rw [ht]; exact hP, va_K.moved ha hK, hD⟩, hS.F ht⟩) hS.2.2 (by decide) (by decide)
  · skip
    obtain ⟨⟨hq1, hq2⟩, rfl⟩ := hw
    obtain ⟨hP, hD⟩ := PX_take ht hFc hB
    generalize H1 = H at hP hS ⊢
    have hP : va_P (dC, dI) vwCl (wX c0 a (n, wk, sd, bt, lt, lo, rk, ad, vl, bg, cm, sp, gd, rf, ct, rd, sm, js, sn, wl)) H := hP
    have hD : va_D A (wX c0 a (n, wk, sd, bt, lt, lo, rk, ad, vl, bg, cm, sp, gd, rf, ct, rd, sm, js, sn, wl)) := hD
    have hk : vp_in k n := in_of hq1 hq2 (by omega)
    refine lv_iload_n hx hb dX0_share_5 rfl (lv_at hl 2 rfl) ?_
    refine lv_iconst (v := 1) hx hb dX0_share_6 (by decide) ?_
    refine lv_icmp_lt (tgt := 16) hx hb dX0_share_7 (by decide) (fun c_7 => ?_) (fun c_7 => ?_)
    · skip
      obtain ⟨sa, hsa⟩ := hE.st (RX0, 50, "work is not 1 .. 30") (by decide)
      exact vx_throwS (own := RX0) (cls := "java/lang/IllegalArgumentException") (text := "work is not 1 .. 30") (names := ["java/lang/RuntimeException", "java/lang/Exception"]) (ik := 48) (is := 50) (ic := 52) hx hb hl9 hown (by decide +kernel) (by decide +kernel) (hE.t m_246 rfl) (hE.t m_32 rfl) hsa (vx_hat (L := (vx_atS RX0 52 "java/lang/IllegalArgumentException" ["java/lang/RuntimeException", "java/lang/Exception"])) (B := [.castable "java/lang/IllegalArgumentException" "java/lang/IllegalArgumentException", .declares ⟨"java/lang/RuntimeException", "<init>", "(Ljava/lang/String;)V"⟩, .declares ⟨"java/lang/Exception", "<init>", "(Ljava/lang/String;)V"⟩, .declares ⟨"java/lang/Throwable", "<init>", "(Ljava/lang/String;)V"⟩]) (fun w hw => hts w (List.mem_filter.mpr ⟨at_X0_IllegalArgumentException w hw, (List.mem_filter.mp hw).2⟩)) ab_X0_IllegalArgumentException (vx_c (hE.t m_248 rfl) (vx_c (hE.t m_182 rfl) (vx_c (hE.t m_184 rfl) (vx_c (hE.t m_186 rfl) vx_n))))) gd_X0_IllegalArgumentException hE.zu hE.zn hS (by rw [hml]; exact hl.1) dX0_share_16 dX0_share_19 dX0_share_20 dX0_share_22 dX0_share_25 (fun x hx => (hne x hx).elim) (by decide) (by decide) (by decide) (by decide) hlocks (fun t hvm h1 h2 => ⟨(), trivial, ⟨Or.inr ⟨rfl, (by simp only [f_share, c_7, hq1, hq2, ↓reduceIte])⟩, (thr_B hP hK hD hS hvm h1 h2).1⟩, (thr_B hP hK hD hS hvm h1 h2).2⟩) hS.2.2 (by decide) (by decide)
    · skip
      refine lv_iload_n hx hb dX0_share_10 rfl (lv_at hl 2 rfl) ?_
      refine lv_bipush (v := 30) hx hb dX0_share_11 (by decide) ?_
      refine lv_icmp_le (tgt := 26) hx hb dX0_share_13 (by decide) (fun c_13 => ?_) (fun c_13 => ?_)
      · skip
        refine lv_iload hx hb dX0_share_26 (lv_at hl 4 rfl) ?_
        refine lv_if_lt (tgt := 38) hx hb dX0_share_28 (by decide) (fun c_28 => ?_) (fun c_28 => ?_)
        · skip
          obtain ⟨sa, hsa⟩ := hE.st (RX0, 55, "bits are not 0 .. 8") (by decide)
          exact vx_throwS (own := RX0) (cls := "java/lang/IllegalArgumentException") (text := "bits are not 0 .. 8") (names := ["java/lang/RuntimeException", "java/lang/Exception"]) (ik := 48) (is := 55) (ic := 52) hx hb hl9 hown (by decide +kernel) (by decide +kernel) (hE.t m_246 rfl) (hE.t m_32 rfl) hsa (vx_hat (L := (vx_atS RX0 52 "java/lang/IllegalArgumentException" ["java/lang/RuntimeException", "java/lang/Exception"])) (B := [.castable "java/lang/IllegalArgumentException" "java/lang/IllegalArgumentException", .declares ⟨"java/lang/RuntimeException", "<init>", "(Ljava/lang/String;)V"⟩, .declares ⟨"java/lang/Exception", "<init>", "(Ljava/lang/String;)V"⟩, .declares ⟨"java/lang/Throwable", "<init>", "(Ljava/lang/String;)V"⟩]) (fun w hw => hts w (List.mem_filter.mpr ⟨at_X0_IllegalArgumentException w hw, (List.mem_filter.mp hw).2⟩)) ab_X0_IllegalArgumentException (vx_c (hE.t m_248 rfl) (vx_c (hE.t m_182 rfl) (vx_c (hE.t m_184 rfl) (vx_c (hE.t m_186 rfl) vx_n))))) gd_X0_IllegalArgumentException hE.zu hE.zn hS (by rw [hml]; exact hl.1) dX0_share_38 dX0_share_41 dX0_share_42 dX0_share_44 dX0_share_47 (fun x hx => (hne x hx).elim) (by decide) (by decide) (by decide) (by decide) hlocks (fun t hvm h1 h2 => ⟨(), trivial, ⟨Or.inr ⟨rfl, (by simp only [f_share, c_7, c_13, c_28, hq1, hq2, ↓reduceIte])⟩, (thr_B hP hK hD hS hvm h1 h2).1⟩, (thr_B hP hK hD hS hvm h1 h2).2⟩) hS.2.2 (by decide) (by decide)
        · skip
          refine lv_iload hx hb dX0_share_31 (lv_at hl 4 rfl) ?_
          refine lv_bipush (v := 8) hx hb dX0_share_33 (by decide) ?_
          refine lv_icmp_le (tgt := 48) hx hb dX0_share_35 (by decide) (fun c_35 => ?_) (fun c_35 => ?_)
          · skip
            refine lv_aload_n hx hb dX0_share_48 rfl (lv_at hl 0 rfl) ?_
            refine va_get (D := (dC, dI)) (ci := 0) (v := .ref (a 1)) (C := RX0) (T := TX0) (N := 6) hx hb hts inX0 hown hK hP 0 rfl rfl 0 (by decide) (hE.t m_143 rfl) (fun _ h9 => h9) rfl dX0_share_49 ?_
            refine va_getN (D := (dC, dI)) (ci := 1) (v := .ref (a 4)) (C := RX1) (T := TX1) (N := 6) hx hb hts inX1 hown hK hP 1 rfl rfl 1 (by decide) (hE.t m_61 rfl) (fun _ h9 => h9) rfl dX0_share_52 ?_
            refine lv_iload_n hx hb dX0_share_55 rfl (lv_at hl 1 rfl) ?_
            refine va_iald hx hb hK hP 4 0 rfl rfl hk dX0_share_56 ?_
            refine lv_istore (lv' := [(5, .int (wk k.toNatClampNeg)), (0, .ref (a 0)), (1, .int k), (2, .int w), (3, .int x), (4, .int b)]) hx hb dX0_share_57 hl (by decide) rfl (fun ls hl => ?_)
            refine lv_aload_n hx hb dX0_share_59 rfl (lv_at hl 1 rfl) ?_
            refine va_get (D := (dC, dI)) (ci := 0) (v := .ref (a 1)) (C := RX0) (T := TX0) (N := 6) hx hb hts inX0 hown hK hP 0 rfl rfl 0 (by decide) (hE.t m_143 rfl) (fun _ h9 => h9) rfl dX0_share_60 ?_
            refine va_getN (D := (dC, dI)) (ci := 1) (v := .ref (a 4)) (C := RX1) (T := TX1) (N := 6) hx hb hts inX1 hown hK hP 1 rfl rfl 1 (by decide) (hE.t m_61 rfl) (fun _ h9 => h9) rfl dX0_share_63 ?_
            refine lv_iload_n hx hb dX0_share_66 rfl (lv_at hl 2 rfl) ?_
            refine lv_iload_n hx hb dX0_share_67 rfl (lv_at hl 3 rfl) ?_
            refine va_iast hx hb hK hP hD hS 4 0 rfl rfl hk dX0_share_68 (fun H locs hP hD hS => ?_)
            have hP : va_P (dC, dI) vwCl (wX c0 a (n, upd wk k.toNatClampNeg w, sd, bt, lt, lo, rk, ad, vl, bg, cm, sp, gd, rf, ct, rd, sm, js, sn, wl)) H := hP
            have hD : va_D A (wX c0 a (n, upd wk k.toNatClampNeg w, sd, bt, lt, lo, rk, ad, vl, bg, cm, sp, gd, rf, ct, rd, sm, js, sn, wl)) := hD
            refine lv_aload_n hx hb dX0_share_69 rfl (lv_at hl 1 rfl) ?_
            refine va_get (D := (dC, dI)) (ci := 0) (v := .ref (a 1)) (C := RX0) (T := TX0) (N := 6) hx hb hts inX0 hown hK hP 0 rfl rfl 0 (by decide) (hE.t m_143 rfl) (fun _ h9 => h9) rfl dX0_share_70 ?_
            refine va_getN (D := (dC, dI)) (ci := 1) (v := .ref (a 5)) (C := RX1) (T := TX1) (N := 6) hx hb hts inX1 hown hK hP 1 rfl rfl 2 (by decide) (hE.t m_63 rfl) (fun _ h9 => h9) rfl dX0_share_73 ?_
            refine lv_iload_n hx hb dX0_share_76 rfl (lv_at hl 2 rfl) ?_
            refine lv_iload_n hx hb dX0_share_77 rfl (lv_at hl 4 rfl) ?_
            refine va_iast hx hb hK hP hD hS 5 0 rfl rfl hk dX0_share_78 (fun H locs hP hD hS => ?_)
            have hP : va_P (dC, dI) vwCl (wX c0 a (n, upd wk k.toNatClampNeg w, upd sd k.toNatClampNeg x, bt, lt, lo, rk, ad, vl, bg, cm, sp, gd, rf, ct, rd, sm, js, sn, wl)) H := hP
            have hD : va_D A (wX c0 a (n, upd wk k.toNatClampNeg w, upd sd k.toNatClampNeg x, bt, lt, lo, rk, ad, vl, bg, cm, sp, gd, rf, ct, rd, sm, js, sn, wl)) := hD
            refine lv_aload_n hx hb dX0_share_79 rfl (lv_at hl 1 rfl) ?_
            refine va_get (D := (dC, dI)) (ci := 0) (v := .ref (a 1)) (C := RX0) (T := TX0) (N := 6) hx hb hts inX0 hown hK hP 0 rfl rfl 0 (by decide) (hE.t m_143 rfl) (fun _ h9 => h9) rfl dX0_share_80 ?_
            refine va_getN (D := (dC, dI)) (ci := 1) (v := .ref (a 6)) (C := RX1) (T := TX1) (N := 6) hx hb hts inX1 hown hK hP 1 rfl rfl 3 (by decide) (hE.t m_65 rfl) (fun _ h9 => h9) rfl dX0_share_83 ?_
            refine lv_iload_n hx hb dX0_share_86 rfl (lv_at hl 2 rfl) ?_
            refine lv_iload hx hb dX0_share_87 (lv_at hl 5 rfl) ?_
            refine va_iast hx hb hK hP hD hS 6 0 rfl rfl hk dX0_share_89 (fun H locs hP hD hS => ?_)
            have hP : va_P (dC, dI) vwCl (wX c0 a (n, upd wk k.toNatClampNeg w, upd sd k.toNatClampNeg x, upd bt k.toNatClampNeg b, lt, lo, rk, ad, vl, bg, cm, sp, gd, rf, ct, rd, sm, js, sn, wl)) H := hP
            have hD : va_D A (wX c0 a (n, upd wk k.toNatClampNeg w, upd sd k.toNatClampNeg x, upd bt k.toNatClampNeg b, lt, lo, rk, ad, vl, bg, cm, sp, gd, rf, ct, rd, sm, js, sn, wl)) := hD
            refine lv_iload hx hb dX0_share_90 (lv_at hl 0 rfl) ?_
            refine vx_ret ?_
            refine W.widen (k := 2) (n := 12) (by omega) (by omega) ?_
            exact W.iret (v := wk k.toNatClampNeg) hx hb hr (fun t ht hW => ⟨⟨wk k.toNatClampNeg, (n, upd wk k.toNatClampNeg w, upd sd k.toNatClampNeg x, upd bt k.toNatClampNeg b, lt, lo, rk, ad, vl, bg, cm, sp, gd, rf, ct, rd, sm, js, sn, wl), rfl, (by simp only [f_share, c_7, c_13, c_28, c_35, hq1, hq2, ↓reduceIte]), by rw [ht]; exact hP, va_K.moved hW.alike hK, hD⟩, hS.F ht⟩) hS.2.2 dX0_share_92
          · skip
            obtain ⟨sa, hsa⟩ := hE.st (RX0, 55, "bits are not 0 .. 8") (by decide)
            exact vx_throwS (own := RX0) (cls := "java/lang/IllegalArgumentException") (text := "bits are not 0 .. 8") (names := ["java/lang/RuntimeException", "java/lang/Exception"]) (ik := 48) (is := 55) (ic := 52) hx hb hl9 hown (by decide +kernel) (by decide +kernel) (hE.t m_246 rfl) (hE.t m_32 rfl) hsa (vx_hat (L := (vx_atS RX0 52 "java/lang/IllegalArgumentException" ["java/lang/RuntimeException", "java/lang/Exception"])) (B := [.castable "java/lang/IllegalArgumentException" "java/lang/IllegalArgumentException", .declares ⟨"java/lang/RuntimeException", "<init>", "(Ljava/lang/String;)V"⟩, .declares ⟨"java/lang/Exception", "<init>", "(Ljava/lang/String;)V"⟩, .declares ⟨"java/lang/Throwable", "<init>", "(Ljava/lang/String;)V"⟩]) (fun w hw => hts w (List.mem_filter.mpr ⟨at_X0_IllegalArgumentException w hw, (List.mem_filter.mp hw).2⟩)) ab_X0_IllegalArgumentException (vx_c (hE.t m_248 rfl) (vx_c (hE.t m_182 rfl) (vx_c (hE.t m_184 rfl) (vx_c (hE.t m_186 rfl) vx_n))))) gd_X0_IllegalArgumentException hE.zu hE.zn hS (by rw [hml]; exact hl.1) dX0_share_38 dX0_share_41 dX0_share_42 dX0_share_44 dX0_share_47 (fun x hx => (hne x hx).elim) (by decide) (by decide) (by decide) (by decide) hlocks (fun t hvm h1 h2 => ⟨(), trivial, ⟨Or.inr ⟨rfl, (by simp only [f_share, c_7, c_13, c_28, c_35, hq1, hq2, ↓reduceIte])⟩, (thr_B hP hK hD hS hvm h1 h2).1⟩, (thr_B hP hK hD hS hvm h1 h2).2⟩) hS.2.2 (by decide) (by decide)
      · skip
        obtain ⟨sa, hsa⟩ := hE.st (RX0, 50, "work is not 1 .. 30") (by decide)
        exact vx_throwS (own := RX0) (cls := "java/lang/IllegalArgumentException") (text := "work is not 1 .. 30") (names := ["java/lang/RuntimeException", "java/lang/Exception"]) (ik := 48) (is := 50) (ic := 52) hx hb hl9 hown (by decide +kernel) (by decide +kernel) (hE.t m_246 rfl) (hE.t m_32 rfl) hsa (vx_hat (L := (vx_atS RX0 52 "java/lang/IllegalArgumentException" ["java/lang/RuntimeException", "java/lang/Exception"])) (B := [.castable "java/lang/IllegalArgumentException" "java/lang/IllegalArgumentException", .declares ⟨"java/lang/RuntimeException", "<init>", "(Ljava/lang/String;)V"⟩, .declares ⟨"java/lang/Exception", "<init>", "(Ljava/lang/String;)V"⟩, .declares ⟨"java/lang/Throwable", "<init>", "(Ljava/lang/String;)V"⟩]) (fun w hw => hts w (List.mem_filter.mpr ⟨at_X0_IllegalArgumentException w hw, (List.mem_filter.mp hw).2⟩)) ab_X0_IllegalArgumentException (vx_c (hE.t m_248 rfl) (vx_c (hE.t m_182 rfl) (vx_c (hE.t m_184 rfl) (vx_c (hE.t m_186 rfl) vx_n))))) gd_X0_IllegalArgumentException hE.zu hE.zn hS (by rw [hml]; exact hl.1) dX0_share_16 dX0_share_19 dX0_share_20 dX0_share_22 dX0_share_25 (fun x hx => (hne x hx).elim) (by decide) (by decide) (by decide) (by decide) hlocks (fun t hvm h1 h2 => ⟨(), trivial, ⟨Or.inr ⟨rfl, (by simp only [f_share, c_7, c_13, hq1, hq2, ↓reduceIte])⟩, (thr_B hP hK hD hS hvm h1 h2).1⟩, (thr_B hP hK hD hS hvm h1 h2).2⟩) hS.2.2 (by decide) (by decide)
set_option maxHeartbeats 4000000 in
set_option maxRecDepth 100000 in
/-- fails -/
theorem c_X0_fails (l : Launch) (hl9 : l.stackTraces = false) (dC : Nat → ClassId) (dI : Nat → Nat → Nat) (c0 : ClassId) (a : Nat → Nat) (sz : Nat) (n : Nat) (wk sd bt lt lo rk ad vl bg cm : Nat → Int32) (sp gd rf : Int32) (ct : Nat) (rd : Int32) (sm : Int64) (js sn wl : Int32) (k : Int32) (w : Int32) (x : Int32) (hn : n ≤ 40) : vx_Met l yX0_fails wsX0_fails ({ frames := 7, cells := 2, slots := 12, locals := 103 }) (va_Pc [.ref (a 0), .int k, .int w, .int x] (PX dC dI c0 a (n, wk, sd, bt, lt, lo, rk, ad, vl, bg, cm, sp, gd, rf, ct, rd, sm, js, sn, wl) sz)) (va_Qi (fun (r : Int32) (u : xS) => f_fails (n, wk, sd, bt, lt, lo, rk, ad, vl, bg, cm, sp, gd, rf, ct, rd, sm, js, sn, wl) k w x = (0, r.toInt64, u)) (BX dC dI c0 a (va_A (wX c0 a (n, wk, sd, bt, lt, lo, rk, ad, vl, bg, cm, sp, gd, rf, ct, rd, sm, js, sn, wl)) sz)) (va_A (wX c0 a (n, wk, sd, bt, lt, lo, rk, ad, vl, bg, cm, sp, gd, rf, ct, rd, sm, js, sn, wl)) sz)) (vx_X (fun _ : Unit => True) (fun (E : String) (_ : Unit) t => ((E = "java/lang/IndexOutOfBoundsException" ∧ f_fails (n, wk, sd, bt, lt, lo, rk, ad, vl, bg, cm, sp, gd, rf, ct, rd, sm, js, sn, wl) k w x = (1, 0, (n, wk, sd, bt, lt, lo, rk, ad, vl, bg, cm, sp, gd, rf, ct, rd, sm, js, sn, wl))) ∨ (E = "java/lang/IllegalArgumentException" ∧ f_fails (n, wk, sd, bt, lt, lo, rk, ad, vl, bg, cm, sp, gd, rf, ct, rd, sm, js, sn, wl) k w x = (2, 0, (n, wk, sd, bt, lt, lo, rk, ad, vl, bg, cm, sp, gd, rf, ct, rd, sm, js, sn, wl)))) ∧ BX dC dI c0 a (va_A (wX c0 a (n, wk, sd, bt, lt, lo, rk, ad, vl, bg, cm, sp, gd, rf, ct, rd, sm, js, sn, wl)) sz) (n, wk, sd, bt, lt, lo, rk, ad, vl, bg, cm, sp, gd, rf, ct, rd, sm, js, sn, wl) t) (va_A (wX c0 a (n, wk, sd, bt, lt, lo, rk, ad, vl, bg, cm, sp, gd, rf, ct, rd, sm, js, sn, wl)) sz)) 2 12 (va_A (wX c0 a (n, wk, sd, bt, lt, lo, rk, ad, vl, bg, cm, sp, gd, rf, ct, rd, sm, js, sn, wl)) sz) := by
  refine vx_ofW (cc := cX0_fails) (maxL := 5) (ret := (some .int)) (by decide) rfl ?_
  intro p e s m args below meth c s₁ B hml hne hv
  obtain ⟨rfl, hsz, hP, hK, hD0, hE⟩ := hv
  have hx := B.exec
  have hb := B.bytes
  have hr := B.returns
  have hown : s.vm.findClass RX0 = some m.cls := findClass_of_methodNamed B.named
  have hlocks := B.notSynchronized
  subst hsz
  have hD := hD0.self (sz := s.heap.size)
  generalize hAe : va_A (wX c0 a (n, wk, sd, bt, lt, lo, rk, ad, vl, bg, cm, sp, gd, rf, ct, rd, sm, js, sn, wl)) s.heap.size = A at hD hE ⊢
  have hts := hE.ts (args := ([.ref (a 0), .int k, .int w, .int x] : List Value).toArray)
  have hA : ∀ q : Nat, s.heap.size ≤ q → A q := fun q h => by rw [← hAe]; exact Or.inr h
  have hS : va_S A s.heap s.heap [] := va_S.rf
  have hP : va_P (dC, dI) vwCl (wX c0 a (n, wk, sd, bt, lt, lo, rk, ad, vl, bg, cm, sp, gd, rf, ct, rd, sm, js, sn, wl)) s.heap := hP
  have hl := lv_entry ([.ref (a 0), .int k, .int w, .int x]) (n := 5) (Nat.le_of_ble_eq_true rfl)
  rw [lg_entry_eq]
  generalize (lg_sl ([.ref (a 0), .int k, .int w, .int x]) ++ List.replicate (5 - (lg_sl ([.ref (a 0), .int k, .int w, .int x])).length) Slot.unset).toArray = ls at hl ⊢
  have hl : lv_has ls 5 [(0, .ref (a 0)), (1, .int k), (2, .int w), (3, .int x)] := hl
  refine lv_aload_n hx hb dX0_fails_0 rfl (lv_at hl 0 rfl) ?_
  refine lv_iload_n hx hb dX0_fails_1 rfl (lv_at hl 1 rfl) ?_
  have hFc := fre hD hS hA
  refine vx_callv (vx_runV (As := [.int k]) (rest := []) ⟨hx, hb, hml, hown, hts⟩ (c_X0_needShare l hl9 dC dI c0 a _ n wk sd bt lt lo rk ad vl bg cm sp gd rf ct rd sm js sn wl k) (cwV 1 hts gX0_fails_X0_needShare rfl rfl rfl (by decide +kernel) ⟨(Nat.le_of_ble_eq_true rfl), (Nat.le_of_ble_eq_true rfl)⟩) ⟨PX_blind, va_recv hK hP (ci := 0) (q0 := 0) rfl rfl, PX_give hP hK hD hE hS hFc⟩ rfl rfl hl.1 rfl (lv_room (Nat.le_of_ble_eq_true rfl)) dX0_fails_2 ⟨by decide, by decide⟩) hS (fun q _ h => hFc q h) hFc (fun q _ h => hFc q h) (fun E ce q9 u t H1 locs ht hvm hw hB hz1 hk1 hS hce hcv hcl => ?_) (fun u t H1 locs ht hvm hw hB hz1 hk1 hS => ?_)
  · skip
    obtain ⟨hEE, hB⟩ := hB
    obtain ⟨hP, hD⟩ := PX_take ht hFc hB
    exact vx_out (E := E) (fun x hx => (hne x hx).elim) hlocks hce hcv hcl (fun t ht ha => ⟨(), trivial, ⟨Or.inl ⟨hEE.1, (by rcases hEE.2 with h9 | h9 <;> simp only [f_fails, h9, ↓reduceIte, ite_self])⟩, by rw [ht]; exact hP, va_K.moved ha hK, hD⟩, hS.F ht⟩) hS.2.2 (by decide) (by decide)
  · skip
    obtain ⟨⟨hq1, hq2⟩, rfl⟩ := hw
    obtain ⟨hP, hD⟩ := PX_take ht hFc hB
    generalize H1 = H at hP hS ⊢
    have hP : va_P (dC, dI) vwCl (wX c0 a (n, wk, sd, bt, lt, lo, rk, ad, vl, bg, cm, sp, gd, rf, ct, rd, sm, js, sn, wl)) H := hP
    have hD : va_D A (wX c0 a (n, wk, sd, bt, lt, lo, rk, ad, vl, bg, cm, sp, gd, rf, ct, rd, sm, js, sn, wl)) := hD
    have hk : vp_in k n := in_of hq1 hq2 (by omega)
    refine lv_iload_n hx hb dX0_fails_5 rfl (lv_at hl 2 rfl) ?_
    refine lv_iconst (v := 1) hx hb dX0_fails_6 (by decide) ?_
    refine lv_icmp_lt (tgt := 16) hx hb dX0_fails_7 (by decide) (fun c_7 => ?_) (fun c_7 => ?_)
    · skip
      obtain ⟨sa, hsa⟩ := hE.st (RX0, 67, "step is not 1 .. 30") (by decide)
      exact vx_throwS (own := RX0) (cls := "java/lang/IllegalArgumentException") (text := "step is not 1 .. 30") (names := ["java/lang/RuntimeException", "java/lang/Exception"]) (ik := 48) (is := 67) (ic := 52) hx hb hl9 hown (by decide +kernel) (by decide +kernel) (hE.t m_246 rfl) (hE.t m_32 rfl) hsa (vx_hat (L := (vx_atS RX0 52 "java/lang/IllegalArgumentException" ["java/lang/RuntimeException", "java/lang/Exception"])) (B := [.castable "java/lang/IllegalArgumentException" "java/lang/IllegalArgumentException", .declares ⟨"java/lang/RuntimeException", "<init>", "(Ljava/lang/String;)V"⟩, .declares ⟨"java/lang/Exception", "<init>", "(Ljava/lang/String;)V"⟩, .declares ⟨"java/lang/Throwable", "<init>", "(Ljava/lang/String;)V"⟩]) (fun w hw => hts w (List.mem_filter.mpr ⟨at_X0_IllegalArgumentException w hw, (List.mem_filter.mp hw).2⟩)) ab_X0_IllegalArgumentException (vx_c (hE.t m_248 rfl) (vx_c (hE.t m_182 rfl) (vx_c (hE.t m_184 rfl) (vx_c (hE.t m_186 rfl) vx_n))))) gd_X0_IllegalArgumentException hE.zu hE.zn hS (by rw [hml]; exact hl.1) dX0_fails_16 dX0_fails_19 dX0_fails_20 dX0_fails_22 dX0_fails_25 (fun x hx => (hne x hx).elim) (by decide) (by decide) (by decide) (by decide) hlocks (fun t hvm h1 h2 => ⟨(), trivial, ⟨Or.inr ⟨rfl, (by simp only [f_fails, c_7, hq1, hq2, ↓reduceIte])⟩, (thr_B hP hK hD hS hvm h1 h2).1⟩, (thr_B hP hK hD hS hvm h1 h2).2⟩) hS.2.2 (by decide) (by decide)
    · skip
      refine lv_iload_n hx hb dX0_fails_10 rfl (lv_at hl 2 rfl) ?_
      refine lv_bipush (v := 30) hx hb dX0_fails_11 (by decide) ?_
      refine lv_icmp_le (tgt := 26) hx hb dX0_fails_13 (by decide) (fun c_13 => ?_) (fun c_13 => ?_)
      · skip
        refine lv_iload_n hx hb dX0_fails_26 rfl (lv_at hl 3 rfl) ?_
        refine lv_if_lt (tgt := 35) hx hb dX0_fails_27 (by decide) (fun c_27 => ?_) (fun c_27 => ?_)
        · skip
          obtain ⟨sa, hsa⟩ := hE.st (RX0, 69, "times is not 0 .. 4") (by decide)
          exact vx_throwS (own := RX0) (cls := "java/lang/IllegalArgumentException") (text := "times is not 0 .. 4") (names := ["java/lang/RuntimeException", "java/lang/Exception"]) (ik := 48) (is := 69) (ic := 52) hx hb hl9 hown (by decide +kernel) (by decide +kernel) (hE.t m_246 rfl) (hE.t m_32 rfl) hsa (vx_hat (L := (vx_atS RX0 52 "java/lang/IllegalArgumentException" ["java/lang/RuntimeException", "java/lang/Exception"])) (B := [.castable "java/lang/IllegalArgumentException" "java/lang/IllegalArgumentException", .declares ⟨"java/lang/RuntimeException", "<init>", "(Ljava/lang/String;)V"⟩, .declares ⟨"java/lang/Exception", "<init>", "(Ljava/lang/String;)V"⟩, .declares ⟨"java/lang/Throwable", "<init>", "(Ljava/lang/String;)V"⟩]) (fun w hw => hts w (List.mem_filter.mpr ⟨at_X0_IllegalArgumentException w hw, (List.mem_filter.mp hw).2⟩)) ab_X0_IllegalArgumentException (vx_c (hE.t m_248 rfl) (vx_c (hE.t m_182 rfl) (vx_c (hE.t m_184 rfl) (vx_c (hE.t m_186 rfl) vx_n))))) gd_X0_IllegalArgumentException hE.zu hE.zn hS (by rw [hml]; exact hl.1) dX0_fails_35 dX0_fails_38 dX0_fails_39 dX0_fails_41 dX0_fails_44 (fun x hx => (hne x hx).elim) (by decide) (by decide) (by decide) (by decide) hlocks (fun t hvm h1 h2 => ⟨(), trivial, ⟨Or.inr ⟨rfl, (by simp only [f_fails, c_7, c_13, c_27, hq1, hq2, ↓reduceIte])⟩, (thr_B hP hK hD hS hvm h1 h2).1⟩, (thr_B hP hK hD hS hvm h1 h2).2⟩) hS.2.2 (by decide) (by decide)
        · skip
          refine lv_iload_n hx hb dX0_fails_30 rfl (lv_at hl 3 rfl) ?_
          refine lv_iconst (v := 4) hx hb dX0_fails_31 (by decide) ?_
          refine lv_icmp_le (tgt := 45) hx hb dX0_fails_32 (by decide) (fun c_32 => ?_) (fun c_32 => ?_)
          · skip
            refine lv_aload_n hx hb dX0_fails_45 rfl (lv_at hl 0 rfl) ?_
            refine va_get (D := (dC, dI)) (ci := 0) (v := .ref (a 1)) (C := RX0) (T := TX0) (N := 6) hx hb hts inX0 hown hK hP 0 rfl rfl 0 (by decide) (hE.t m_143 rfl) (fun _ h9 => h9) rfl dX0_fails_46 ?_
            refine va_getN (D := (dC, dI)) (ci := 1) (v := .ref (a 8)) (C := RX1) (T := TX1) (N := 6) hx hb hts inX1 hown hK hP 1 rfl rfl 5 (by decide) (hE.t m_70 rfl) (fun _ h9 => h9) rfl dX0_fails_49 ?_
            refine lv_iload_n hx hb dX0_fails_52 rfl (lv_at hl 1 rfl) ?_
            refine va_iald hx hb hK hP 8 0 rfl rfl hk dX0_fails_53 ?_
            refine lv_istore (lv' := [(4, .int (lo k.toNatClampNeg)), (0, .ref (a 0)), (1, .int k), (2, .int w), (3, .int x)]) hx hb dX0_fails_54 hl (by decide) rfl (fun ls hl => ?_)
            refine lv_aload_n hx hb dX0_fails_56 rfl (lv_at hl 1 rfl) ?_
            refine va_get (D := (dC, dI)) (ci := 0) (v := .ref (a 1)) (C := RX0) (T := TX0) (N := 6) hx hb hts inX0 hown hK hP 0 rfl rfl 0 (by decide) (hE.t m_143 rfl) (fun _ h9 => h9) rfl dX0_fails_57 ?_
            refine va_getN (D := (dC, dI)) (ci := 1) (v := .ref (a 7)) (C := RX1) (T := TX1) (N := 6) hx hb hts inX1 hown hK hP 1 rfl rfl 4 (by decide) (hE.t m_67 rfl) (fun _ h9 => h9) rfl dX0_fails_60 ?_
            refine lv_iload_n hx hb dX0_fails_63 rfl (lv_at hl 2 rfl) ?_
            refine lv_iload_n hx hb dX0_fails_64 rfl (lv_at hl 3 rfl) ?_
            refine va_iast hx hb hK hP hD hS 7 0 rfl rfl hk dX0_fails_65 (fun H locs hP hD hS => ?_)
            have hP : va_P (dC, dI) vwCl (wX c0 a (n, wk, sd, bt, upd lt k.toNatClampNeg w, lo, rk, ad, vl, bg, cm, sp, gd, rf, ct, rd, sm, js, sn, wl)) H := hP
            have hD : va_D A (wX c0 a (n, wk, sd, bt, upd lt k.toNatClampNeg w, lo, rk, ad, vl, bg, cm, sp, gd, rf, ct, rd, sm, js, sn, wl)) := hD
            refine lv_aload_n hx hb dX0_fails_66 rfl (lv_at hl 1 rfl) ?_
            refine va_get (D := (dC, dI)) (ci := 0) (v := .ref (a 1)) (C := RX0) (T := TX0) (N := 6) hx hb hts inX0 hown hK hP 0 rfl rfl 0 (by decide) (hE.t m_143 rfl) (fun _ h9 => h9) rfl dX0_fails_67 ?_
            refine va_getN (D := (dC, dI)) (ci := 1) (v := .ref (a 8)) (C := RX1) (T := TX1) (N := 6) hx hb hts inX1 hown hK hP 1 rfl rfl 5 (by decide) (hE.t m_70 rfl) (fun _ h9 => h9) rfl dX0_fails_70 ?_
            refine lv_iload_n hx hb dX0_fails_73 rfl (lv_at hl 2 rfl) ?_
            refine lv_iload_n hx hb dX0_fails_74 rfl (lv_at hl 4 rfl) ?_
            refine va_iast hx hb hK hP hD hS 8 0 rfl rfl hk dX0_fails_75 (fun H locs hP hD hS => ?_)
            have hP : va_P (dC, dI) vwCl (wX c0 a (n, wk, sd, bt, upd lt k.toNatClampNeg w, upd lo k.toNatClampNeg x, rk, ad, vl, bg, cm, sp, gd, rf, ct, rd, sm, js, sn, wl)) H := hP
            have hD : va_D A (wX c0 a (n, wk, sd, bt, upd lt k.toNatClampNeg w, upd lo k.toNatClampNeg x, rk, ad, vl, bg, cm, sp, gd, rf, ct, rd, sm, js, sn, wl)) := hD
            refine lv_iload hx hb dX0_fails_76 (lv_at hl 0 rfl) ?_
            refine vx_ret ?_
            refine W.widen (k := 2) (n := 12) (by omega) (by omega) ?_
            exact W.iret (v := lo k.toNatClampNeg) hx hb hr (fun t ht hW => ⟨⟨lo k.toNatClampNeg, (n, wk, sd, bt, upd lt k.toNatClampNeg w, upd lo k.toNatClampNeg x, rk, ad, vl, bg, cm, sp, gd, rf, ct, rd, sm, js, sn, wl), rfl, (by simp only [f_fails, c_7, c_13, c_27, c_32, hq1, hq2, ↓reduceIte]), by rw [ht]; exact hP, va_K.moved hW.alike hK, hD⟩, hS.F ht⟩) hS.2.2 dX0_fails_78
          · skip
            obtain ⟨sa, hsa⟩ := hE.st (RX0, 69, "times is not 0 .. 4") (by decide)
            exact vx_throwS (own := RX0) (cls := "java/lang/IllegalArgumentException") (text := "times is not 0 .. 4") (names := ["java/lang/RuntimeException", "java/lang/Exception"]) (ik := 48) (is := 69) (ic := 52) hx hb hl9 hown (by decide +kernel) (by decide +kernel) (hE.t m_246 rfl) (hE.t m_32 rfl) hsa (vx_hat (L := (vx_atS RX0 52 "java/lang/IllegalArgumentException" ["java/lang/RuntimeException", "java/lang/Exception"])) (B := [.castable "java/lang/IllegalArgumentException" "java/lang/IllegalArgumentException", .declares ⟨"java/lang/RuntimeException", "<init>", "(Ljava/lang/String;)V"⟩, .declares ⟨"java/lang/Exception", "<init>", "(Ljava/lang/String;)V"⟩, .declares ⟨"java/lang/Throwable", "<init>", "(Ljava/lang/String;)V"⟩]) (fun w hw => hts w (List.mem_filter.mpr ⟨at_X0_IllegalArgumentException w hw, (List.mem_filter.mp hw).2⟩)) ab_X0_IllegalArgumentException (vx_c (hE.t m_248 rfl) (vx_c (hE.t m_182 rfl) (vx_c (hE.t m_184 rfl) (vx_c (hE.t m_186 rfl) vx_n))))) gd_X0_IllegalArgumentException hE.zu hE.zn hS (by rw [hml]; exact hl.1) dX0_fails_35 dX0_fails_38 dX0_fails_39 dX0_fails_41 dX0_fails_44 (fun x hx => (hne x hx).elim) (by decide) (by decide) (by decide) (by decide) hlocks (fun t hvm h1 h2 => ⟨(), trivial, ⟨Or.inr ⟨rfl, (by simp only [f_fails, c_7, c_13, c_27, c_32, hq1, hq2, ↓reduceIte])⟩, (thr_B hP hK hD hS hvm h1 h2).1⟩, (thr_B hP hK hD hS hvm h1 h2).2⟩) hS.2.2 (by decide) (by decide)
      · skip
        obtain ⟨sa, hsa⟩ := hE.st (RX0, 67, "step is not 1 .. 30") (by decide)
        exact vx_throwS (own := RX0) (cls := "java/lang/IllegalArgumentException") (text := "step is not 1 .. 30") (names := ["java/lang/RuntimeException", "java/lang/Exception"]) (ik := 48) (is := 67) (ic := 52) hx hb hl9 hown (by decide +kernel) (by decide +kernel) (hE.t m_246 rfl) (hE.t m_32 rfl) hsa (vx_hat (L := (vx_atS RX0 52 "java/lang/IllegalArgumentException" ["java/lang/RuntimeException", "java/lang/Exception"])) (B := [.castable "java/lang/IllegalArgumentException" "java/lang/IllegalArgumentException", .declares ⟨"java/lang/RuntimeException", "<init>", "(Ljava/lang/String;)V"⟩, .declares ⟨"java/lang/Exception", "<init>", "(Ljava/lang/String;)V"⟩, .declares ⟨"java/lang/Throwable", "<init>", "(Ljava/lang/String;)V"⟩]) (fun w hw => hts w (List.mem_filter.mpr ⟨at_X0_IllegalArgumentException w hw, (List.mem_filter.mp hw).2⟩)) ab_X0_IllegalArgumentException (vx_c (hE.t m_248 rfl) (vx_c (hE.t m_182 rfl) (vx_c (hE.t m_184 rfl) (vx_c (hE.t m_186 rfl) vx_n))))) gd_X0_IllegalArgumentException hE.zu hE.zn hS (by rw [hml]; exact hl.1) dX0_fails_16 dX0_fails_19 dX0_fails_20 dX0_fails_22 dX0_fails_25 (fun x hx => (hne x hx).elim) (by decide) (by decide) (by decide) (by decide) hlocks (fun t hvm h1 h2 => ⟨(), trivial, ⟨Or.inr ⟨rfl, (by simp only [f_fails, c_7, c_13, hq1, hq2, ↓reduceIte])⟩, (thr_B hP hK hD hS hvm h1 h2).1⟩, (thr_B hP hK hD hS hvm h1 h2).2⟩) hS.2.2 (by decide) (by decide)
set_option maxHeartbeats 4000000 in
set_option maxRecDepth 100000 in
/-- act -/
theorem c_X0_act (l : Launch) (hl9 : l.stackTraces = false) (dC : Nat → ClassId) (dI : Nat → Nat → Nat) (c0 : ClassId) (a : Nat → Nat) (sz : Nat) (n : Nat) (wk sd bt lt lo rk ad vl bg cm : Nat → Int32) (sp gd rf : Int32) (ct : Nat) (rd : Int32) (sm : Int64) (js sn wl : Int32) (k : Int32) (v : Int32) (hn : n ≤ 40) (hct9 : ct ≤ 24) : vx_Met l yX0_act wsX0_act ({ frames := 7, cells := 1, slots := 6, locals := 103 }) (va_Pc [.ref (a 0), .int k, .int v] (PX dC dI c0 a (n, wk, sd, bt, lt, lo, rk, ad, vl, bg, cm, sp, gd, rf, ct, rd, sm, js, sn, wl) sz)) (va_Qi (fun (r : Int32) (u : xS) => f_act (n, wk, sd, bt, lt, lo, rk, ad, vl, bg, cm, sp, gd, rf, ct, rd, sm, js, sn, wl) k v = (0, r.toInt64, u)) (BX dC dI c0 a (va_A (wX c0 a (n, wk, sd, bt, lt, lo, rk, ad, vl, bg, cm, sp, gd, rf, ct, rd, sm, js, sn, wl)) sz)) (va_A (wX c0 a (n, wk, sd, bt, lt, lo, rk, ad, vl, bg, cm, sp, gd, rf, ct, rd, sm, js, sn, wl)) sz)) (vx_X (fun _ : Unit => True) (fun (E : String) (_ : Unit) t => ((E = "java/lang/IndexOutOfBoundsException" ∧ f_act (n, wk, sd, bt, lt, lo, rk, ad, vl, bg, cm, sp, gd, rf, ct, rd, sm, js, sn, wl) k v = (1, 0, (n, wk, sd, bt, lt, lo, rk, ad, vl, bg, cm, sp, gd, rf, ct, rd, sm, js, sn, wl))) ∨ (E = "java/lang/IllegalStateException" ∧ f_act (n, wk, sd, bt, lt, lo, rk, ad, vl, bg, cm, sp, gd, rf, ct, rd, sm, js, sn, wl) k v = (2, 0, (n, wk, sd, bt, lt, lo, rk, ad, vl, bg, cm, sp, gd, rf, ct, rd, sm, js, sn, wl)))) ∧ BX dC dI c0 a (va_A (wX c0 a (n, wk, sd, bt, lt, lo, rk, ad, vl, bg, cm, sp, gd, rf, ct, rd, sm, js, sn, wl)) sz) (n, wk, sd, bt, lt, lo, rk, ad, vl, bg, cm, sp, gd, rf, ct, rd, sm, js, sn, wl) t) (va_A (wX c0 a (n, wk, sd, bt, lt, lo, rk, ad, vl, bg, cm, sp, gd, rf, ct, rd, sm, js, sn, wl)) sz)) 1 6 (va_A (wX c0 a (n, wk, sd, bt, lt, lo, rk, ad, vl, bg, cm, sp, gd, rf, ct, rd, sm, js, sn, wl)) sz) := by
  refine vx_ofW (cc := cX0_act) (maxL := 3) (ret := (some .int)) (by decide) rfl ?_
  intro p e s m args below meth c s₁ B hml hne hv
  obtain ⟨rfl, hsz, hP, hK, hD0, hE⟩ := hv
  have hx := B.exec
  have hb := B.bytes
  have hr := B.returns
  have hown : s.vm.findClass RX0 = some m.cls := findClass_of_methodNamed B.named
  have hlocks := B.notSynchronized
  subst hsz
  have hD := hD0.self (sz := s.heap.size)
  generalize hAe : va_A (wX c0 a (n, wk, sd, bt, lt, lo, rk, ad, vl, bg, cm, sp, gd, rf, ct, rd, sm, js, sn, wl)) s.heap.size = A at hD hE ⊢
  have hts := hE.ts (args := ([.ref (a 0), .int k, .int v] : List Value).toArray)
  have hA : ∀ q : Nat, s.heap.size ≤ q → A q := fun q h => by rw [← hAe]; exact Or.inr h
  have hS : va_S A s.heap s.heap [] := va_S.rf
  have hP : va_P (dC, dI) vwCl (wX c0 a (n, wk, sd, bt, lt, lo, rk, ad, vl, bg, cm, sp, gd, rf, ct, rd, sm, js, sn, wl)) s.heap := hP
  have hl := lv_entry ([.ref (a 0), .int k, .int v]) (n := 3) (Nat.le_of_ble_eq_true rfl)
  rw [lg_entry_eq]
  generalize (lg_sl ([.ref (a 0), .int k, .int v]) ++ List.replicate (3 - (lg_sl ([.ref (a 0), .int k, .int v])).length) Slot.unset).toArray = ls at hl ⊢
  have hl : lv_has ls 3 [(0, .ref (a 0)), (1, .int k), (2, .int v)] := hl
  refine lv_iload_n hx hb dX0_act_0 rfl (lv_at hl 1 rfl) ?_
  refine lv_if_lt (tgt := 15) hx hb dX0_act_1 (by decide) (fun c_1 => ?_) (fun c_1 => ?_)
  · skip
    obtain ⟨sa, hsa⟩ := hE.st (RX0, 82, "there is no such rank") (by decide)
    exact vx_throwS (own := RX0) (cls := "java/lang/IndexOutOfBoundsException") (text := "there is no such rank") (names := ["java/lang/RuntimeException", "java/lang/Exception"]) (ik := 80) (is := 82) (ic := 84) hx hb hl9 hown (by decide +kernel) (by decide +kernel) (hE.t m_178 rfl) (hE.t m_31 rfl) hsa (vx_hat (L := (vx_atS RX0 84 "java/lang/IndexOutOfBoundsException" ["java/lang/RuntimeException", "java/lang/Exception"])) (B := [.castable "java/lang/IndexOutOfBoundsException" "java/lang/IndexOutOfBoundsException", .declares ⟨"java/lang/RuntimeException", "<init>", "(Ljava/lang/String;)V"⟩, .declares ⟨"java/lang/Exception", "<init>", "(Ljava/lang/String;)V"⟩, .declares ⟨"java/lang/Throwable", "<init>", "(Ljava/lang/String;)V"⟩]) (fun w hw => hts w (List.mem_filter.mpr ⟨at_X0_IndexOutOfBoundsException w hw, (List.mem_filter.mp hw).2⟩)) ab_X0_IndexOutOfBoundsException (vx_c (hE.t m_180 rfl) (vx_c (hE.t m_182 rfl) (vx_c (hE.t m_184 rfl) (vx_c (hE.t m_186 rfl) vx_n))))) gd_X0_IndexOutOfBoundsException hE.zu hE.zn hS (by rw [hml]; exact hl.1) dX0_act_15 dX0_act_18 dX0_act_19 dX0_act_21 dX0_act_24 (fun x hx => (hne x hx).elim) (by decide) (by decide) (by decide) (by decide) hlocks (fun t hvm h1 h2 => ⟨(), trivial, ⟨Or.inl ⟨rfl, (by simp only [f_act, c_1, ↓reduceIte])⟩, (thr_B hP hK hD hS hvm h1 h2).1⟩, (thr_B hP hK hD hS hvm h1 h2).2⟩) hS.2.2 (by decide) (by decide)
  · skip
    refine lv_iload_n hx hb dX0_act_4 rfl (lv_at hl 1 rfl) ?_
    refine lv_aload_n hx hb dX0_act_5 rfl (lv_at hl 0 rfl) ?_
    refine va_get (D := (dC, dI)) (ci := 0) (v := .ref (a 1)) (C := RX0) (T := TX0) (N := 6) hx hb hts inX0 hown hK hP 0 rfl rfl 0 (by decide) (hE.t m_143 rfl) (fun _ h9 => h9) rfl dX0_act_6 ?_
    refine va_getN (D := (dC, dI)) (ci := 1) (v := .int (nI n)) (C := RX1) (T := TX1) (N := 6) hx hb hts inX1 hown hK hP 1 rfl rfl 0 (by decide) (hE.t m_59 rfl) (fun _ h9 => h9) rfl dX0_act_9 ?_
    refine lv_icmp_le (tgt := 25) hx hb dX0_act_12 (by decide) (fun c_12 => ?_) (fun c_12 => ?_)
    · skip
      refine lv_aload_n hx hb dX0_act_25 rfl (lv_at hl 0 rfl) ?_
      refine va_get (D := (dC, dI)) (ci := 0) (v := .ref (a 2)) (C := RX0) (T := TX0) (N := 6) hx hb hts inX0 hown hK hP 0 rfl rfl 1 (by decide) (hE.t m_144 rfl) (fun _ h9 => h9) rfl dX0_act_26 ?_
      refine va_getN (D := (dC, dI)) (ci := 2) (v := .int (nI ct)) (C := RX2) (T := TX2) (N := 3) hx hb hts inX2 hown hK hP 2 rfl rfl 2 (by decide) (hE.t m_97 rfl) (fun _ h9 => h9) rfl dX0_act_29 ?_
      refine lv_bipush (v := 24) hx hb dX0_act_32 (by decide) ?_
      refine lv_icmp_lt (tgt := 47) hx hb dX0_act_34 (by decide) (fun c_34 => ?_) (fun c_34 => ?_)
      · skip
        have hct : ct < 24 := ct_lt hct9 c_34
        refine lv_aload_n hx hb dX0_act_47 rfl (lv_at hl 0 rfl) ?_
        refine va_get (D := (dC, dI)) (ci := 0) (v := .ref (a 2)) (C := RX0) (T := TX0) (N := 6) hx hb hts inX0 hown hK hP 0 rfl rfl 1 (by decide) (hE.t m_144 rfl) (fun _ h9 => h9) rfl dX0_act_48 ?_
        refine lv_iload_n hx hb dX0_act_51 rfl (lv_at hl 1 rfl) ?_
        refine lv_iload_n hx hb dX0_act_52 rfl (lv_at hl 2 rfl) ?_
        have hFc := fre hD hS hA
        refine va_calli (va_runVN (As := [.int k, .int v]) (rest := []) ⟨hx, hb, hml, hown, hts⟩ (c_X2_append l dC dI c0 a _ n wk sd bt lt lo rk ad vl bg cm sp gd rf ct rd sm js sn wl k v hct) ⟨va_cnB (host := "DrawShares") 2 hts gX0_act_X2_append rfl rfl rfl (hE.t0 m_297 rfl) (hE.t m_25 rfl) (by decide +kernel) ⟨(Nat.le_of_ble_eq_true rfl), (Nat.le_of_ble_eq_true rfl)⟩, hE.t m_299 rfl, hE.t m_2 rfl⟩ ⟨PX_blind, va_recv hK hP (ci := 2) (q0 := 2) rfl rfl, PX_give hP hK hD hE hS hFc⟩ rfl rfl hl.1 rfl (lv_room (Nat.le_of_ble_eq_true rfl)) dX0_act_53 ⟨by decide, by decide⟩) hS (fun q _ h => hFc q h) hFc (fun r_53 u t H1 locs ht hvm hw hB hz1 hk1 hS => ?_)
        obtain ⟨rfl, rfl⟩ := hw
        obtain ⟨hP, hD⟩ := PX_take ht hFc hB
        generalize H1 = H at hP hS ⊢
        have hP : va_P (dC, dI) vwCl (wX c0 a (n, wk, sd, bt, lt, lo, upd rk ct k, upd ad ct v, vl, bg, cm, sp, gd, rf, ct + 1, rd, sm, js, sn, wl)) H := hP
        have hD : va_D A (wX c0 a (n, wk, sd, bt, lt, lo, upd rk ct k, upd ad ct v, vl, bg, cm, sp, gd, rf, ct + 1, rd, sm, js, sn, wl)) := hD
        refine vx_ret ?_
        refine W.widen (k := 1) (n := 6) (by omega) (by omega) ?_
        exact W.iret (v := nI ct) hx hb hr (fun t ht hW => ⟨⟨nI ct, (n, wk, sd, bt, lt, lo, upd rk ct k, upd ad ct v, vl, bg, cm, sp, gd, rf, ct + 1, rd, sm, js, sn, wl), rfl, (by simp only [f_act, c_1, c_12, c_34, ↓reduceIte]), by rw [ht]; exact hP, va_K.moved hW.alike hK, hD⟩, hS.F ht⟩) hS.2.2 dX0_act_56
      · skip
        obtain ⟨sa, hsa⟩ := hE.st (RX0, 88, "there are 24 acts") (by decide)
        exact vx_throwS (own := RX0) (cls := "java/lang/IllegalStateException") (text := "there are 24 acts") (names := ["java/lang/RuntimeException", "java/lang/Exception"]) (ik := 86) (is := 88) (ic := 90) hx hb hl9 hown (by decide +kernel) (by decide +kernel) (hE.t m_281 rfl) (hE.t m_33 rfl) hsa (vx_hat (L := (vx_atS RX0 90 "java/lang/IllegalStateException" ["java/lang/RuntimeException", "java/lang/Exception"])) (B := [.castable "java/lang/IllegalStateException" "java/lang/IllegalStateException", .declares ⟨"java/lang/RuntimeException", "<init>", "(Ljava/lang/String;)V"⟩, .declares ⟨"java/lang/Exception", "<init>", "(Ljava/lang/String;)V"⟩, .declares ⟨"java/lang/Throwable", "<init>", "(Ljava/lang/String;)V"⟩]) (fun w hw => hts w (List.mem_filter.mpr ⟨at_X0_IllegalStateException w hw, (List.mem_filter.mp hw).2⟩)) ab_X0_IllegalStateException (vx_c (hE.t m_283 rfl) (vx_c (hE.t m_182 rfl) (vx_c (hE.t m_184 rfl) (vx_c (hE.t m_186 rfl) vx_n))))) gd_X0_IllegalStateException hE.zu hE.zn hS (by rw [hml]; exact hl.1) dX0_act_37 dX0_act_40 dX0_act_41 dX0_act_43 dX0_act_46 (fun x hx => (hne x hx).elim) (by decide) (by decide) (by decide) (by decide) hlocks (fun t hvm h1 h2 => ⟨(), trivial, ⟨Or.inr ⟨rfl, (by simp only [f_act, c_1, c_12, c_34, ↓reduceIte])⟩, (thr_B hP hK hD hS hvm h1 h2).1⟩, (thr_B hP hK hD hS hvm h1 h2).2⟩) hS.2.2 (by decide) (by decide)
    · skip
      obtain ⟨sa, hsa⟩ := hE.st (RX0, 82, "there is no such rank") (by decide)
      exact vx_throwS (own := RX0) (cls := "java/lang/IndexOutOfBoundsException") (text := "there is no such rank") (names := ["java/lang/RuntimeException", "java/lang/Exception"]) (ik := 80) (is := 82) (ic := 84) hx hb hl9 hown (by decide +kernel) (by decide +kernel) (hE.t m_178 rfl) (hE.t m_31 rfl) hsa (vx_hat (L := (vx_atS RX0 84 "java/lang/IndexOutOfBoundsException" ["java/lang/RuntimeException", "java/lang/Exception"])) (B := [.castable "java/lang/IndexOutOfBoundsException" "java/lang/IndexOutOfBoundsException", .declares ⟨"java/lang/RuntimeException", "<init>", "(Ljava/lang/String;)V"⟩, .declares ⟨"java/lang/Exception", "<init>", "(Ljava/lang/String;)V"⟩, .declares ⟨"java/lang/Throwable", "<init>", "(Ljava/lang/String;)V"⟩]) (fun w hw => hts w (List.mem_filter.mpr ⟨at_X0_IndexOutOfBoundsException w hw, (List.mem_filter.mp hw).2⟩)) ab_X0_IndexOutOfBoundsException (vx_c (hE.t m_180 rfl) (vx_c (hE.t m_182 rfl) (vx_c (hE.t m_184 rfl) (vx_c (hE.t m_186 rfl) vx_n))))) gd_X0_IndexOutOfBoundsException hE.zu hE.zn hS (by rw [hml]; exact hl.1) dX0_act_15 dX0_act_18 dX0_act_19 dX0_act_21 dX0_act_24 (fun x hx => (hne x hx).elim) (by decide) (by decide) (by decide) (by decide) hlocks (fun t hvm h1 h2 => ⟨(), trivial, ⟨Or.inl ⟨rfl, (by simp only [f_act, c_1, c_12, ↓reduceIte])⟩, (thr_B hP hK hD hS hvm h1 h2).1⟩, (thr_B hP hK hD hS hvm h1 h2).2⟩) hS.2.2 (by decide) (by decide)
set_option maxHeartbeats 4000000 in
set_option maxRecDepth 100000 in
/-- stop -/
theorem c_X0_stop (l : Launch) (hl9 : l.stackTraces = false) (dC : Nat → ClassId) (dI : Nat → Nat → Nat) (c0 : ClassId) (a : Nat → Nat) (sz : Nat) (n : Nat) (wk sd bt lt lo rk ad vl bg cm : Nat → Int32) (sp gd rf : Int32) (ct : Nat) (rd : Int32) (sm : Int64) (js sn wl : Int32) (k : Int32) (hn : n ≤ 40) : vx_Met l yX0_stop wsX0_stop ({ frames := 7, cells := 1, slots := 6, locals := 103 }) (va_Pc [.ref (a 0), .int k] (PX dC dI c0 a (n, wk, sd, bt, lt, lo, rk, ad, vl, bg, cm, sp, gd, rf, ct, rd, sm, js, sn, wl) sz)) (va_Qi (fun (r : Int32) (u : xS) => f_stop (n, wk, sd, bt, lt, lo, rk, ad, vl, bg, cm, sp, gd, rf, ct, rd, sm, js, sn, wl) k = (0, r.toInt64, u)) (BX dC dI c0 a (va_A (wX c0 a (n, wk, sd, bt, lt, lo, rk, ad, vl, bg, cm, sp, gd, rf, ct, rd, sm, js, sn, wl)) sz)) (va_A (wX c0 a (n, wk, sd, bt, lt, lo, rk, ad, vl, bg, cm, sp, gd, rf, ct, rd, sm, js, sn, wl)) sz)) (vx_X (fun _ : Unit => True) (fun (E : String) (_ : Unit) t => ((E = "java/lang/IndexOutOfBoundsException" ∧ f_stop (n, wk, sd, bt, lt, lo, rk, ad, vl, bg, cm, sp, gd, rf, ct, rd, sm, js, sn, wl) k = (1, 0, (n, wk, sd, bt, lt, lo, rk, ad, vl, bg, cm, sp, gd, rf, ct, rd, sm, js, sn, wl)))) ∧ BX dC dI c0 a (va_A (wX c0 a (n, wk, sd, bt, lt, lo, rk, ad, vl, bg, cm, sp, gd, rf, ct, rd, sm, js, sn, wl)) sz) (n, wk, sd, bt, lt, lo, rk, ad, vl, bg, cm, sp, gd, rf, ct, rd, sm, js, sn, wl) t) (va_A (wX c0 a (n, wk, sd, bt, lt, lo, rk, ad, vl, bg, cm, sp, gd, rf, ct, rd, sm, js, sn, wl)) sz)) 1 6 (va_A (wX c0 a (n, wk, sd, bt, lt, lo, rk, ad, vl, bg, cm, sp, gd, rf, ct, rd, sm, js, sn, wl)) sz) := by
  refine vx_ofW (cc := cX0_stop) (maxL := 3) (ret := (some .int)) (by decide) rfl ?_
  intro p e s m args below meth c s₁ B hml hne hv
  obtain ⟨rfl, hsz, hP, hK, hD0, hE⟩ := hv
  have hx := B.exec
  have hb := B.bytes
  have hr := B.returns
  have hown : s.vm.findClass RX0 = some m.cls := findClass_of_methodNamed B.named
  have hlocks := B.notSynchronized
  subst hsz
  have hD := hD0.self (sz := s.heap.size)
  generalize hAe : va_A (wX c0 a (n, wk, sd, bt, lt, lo, rk, ad, vl, bg, cm, sp, gd, rf, ct, rd, sm, js, sn, wl)) s.heap.size = A at hD hE ⊢
  have hts := hE.ts (args := ([.ref (a 0), .int k] : List Value).toArray)
  have hA : ∀ q : Nat, s.heap.size ≤ q → A q := fun q h => by rw [← hAe]; exact Or.inr h
  have hS : va_S A s.heap s.heap [] := va_S.rf
  have hP : va_P (dC, dI) vwCl (wX c0 a (n, wk, sd, bt, lt, lo, rk, ad, vl, bg, cm, sp, gd, rf, ct, rd, sm, js, sn, wl)) s.heap := hP
  have hl := lv_entry ([.ref (a 0), .int k]) (n := 3) (Nat.le_of_ble_eq_true rfl)
  rw [lg_entry_eq]
  generalize (lg_sl ([.ref (a 0), .int k]) ++ List.replicate (3 - (lg_sl ([.ref (a 0), .int k])).length) Slot.unset).toArray = ls at hl ⊢
  have hl : lv_has ls 3 [(0, .ref (a 0)), (1, .int k)] := hl
  refine lv_iload_n hx hb dX0_stop_0 rfl (lv_at hl 1 rfl) ?_
  refine lv_iconst (v := (-1)) hx hb dX0_stop_1 (by decide) ?_
  refine lv_icmp_eq (tgt := 10) hx hb dX0_stop_2 (by decide) (fun c_2 => ?_) (fun c_2 => ?_)
  · skip
    refine lv_aload_n hx hb dX0_stop_10 rfl (lv_at hl 0 rfl) ?_
    refine va_get (D := (dC, dI)) (ci := 0) (v := .int sp) (C := RX0) (T := TX0) (N := 6) hx hb hts inX0 hown hK hP 0 rfl rfl 3 (by decide) (hE.t m_146 rfl) (fun _ h9 => h9) rfl dX0_stop_11 ?_
    refine lv_istore_n (lv' := [(2, .int sp), (0, .ref (a 0)), (1, .int k)]) hx hb dX0_stop_14 rfl hl (by decide) rfl (fun ls hl => ?_)
    refine lv_aload_n hx hb dX0_stop_15 rfl (lv_at hl 1 rfl) ?_
    refine lv_iload_n hx hb dX0_stop_16 rfl (lv_at hl 2 rfl) ?_
    refine va_put (D := (dC, dI)) (ci := 0) (v := .int k) (ty := .int) (C := RX0) (T := TX0) (N := 6) hx hb hts inX0 tyX0 tyX0_ok nmX0 hown hK hP hD hS 0 rfl rfl 3 (by decide) (hE.t m_146 rfl) (fun _ h9 => h9) rfl (by decide +kernel) rfl rfl (Nat.le_of_ble_eq_true rfl) dX0_stop_17 (fun H locs hP hD hS => ?_)
    have hP : va_P (dC, dI) vwCl (wX c0 a (n, wk, sd, bt, lt, lo, rk, ad, vl, bg, cm, k, gd, rf, ct, rd, sm, js, sn, wl)) H := hP
    have hD : va_D A (wX c0 a (n, wk, sd, bt, lt, lo, rk, ad, vl, bg, cm, k, gd, rf, ct, rd, sm, js, sn, wl)) := hD
    refine lv_iload_n hx hb dX0_stop_20 rfl (lv_at hl 0 rfl) ?_
    refine vx_ret ?_
    refine W.widen (k := 1) (n := 6) (by omega) (by omega) ?_
    exact W.iret (v := sp) hx hb hr (fun t ht hW => ⟨⟨sp, (n, wk, sd, bt, lt, lo, rk, ad, vl, bg, cm, k, gd, rf, ct, rd, sm, js, sn, wl), rfl, (by simp only [f_stop, eq_true c_2, ↓reduceIte]), by rw [ht]; exact hP, va_K.moved hW.alike hK, hD⟩, hS.F ht⟩) hS.2.2 dX0_stop_21
  · skip
    refine lv_aload_n hx hb dX0_stop_5 rfl (lv_at hl 0 rfl) ?_
    refine lv_iload_n hx hb dX0_stop_6 rfl (lv_at hl 1 rfl) ?_
    have hFc := fre hD hS hA
    refine vx_callv (vx_runV (As := [.int k]) (rest := []) ⟨hx, hb, hml, hown, hts⟩ (c_X0_needShare l hl9 dC dI c0 a _ n wk sd bt lt lo rk ad vl bg cm sp gd rf ct rd sm js sn wl k) (cwV 1 hts gX0_stop_X0_needShare rfl rfl rfl (by decide +kernel) ⟨(Nat.le_of_ble_eq_true rfl), (Nat.le_of_ble_eq_true rfl)⟩) ⟨PX_blind, va_recv hK hP (ci := 0) (q0 := 0) rfl rfl, PX_give hP hK hD hE hS hFc⟩ rfl rfl hl.1 rfl (lv_room (Nat.le_of_ble_eq_true rfl)) dX0_stop_7 ⟨by decide, by decide⟩) hS (fun q _ h => hFc q h) hFc (fun q _ h => hFc q h) (fun E ce q9 u t H1 locs ht hvm hw hB hz1 hk1 hS hce hcv hcl => ?_) (fun u t H1 locs ht hvm hw hB hz1 hk1 hS => ?_)
    · skip
      obtain ⟨hEE, hB⟩ := hB
      obtain ⟨hP, hD⟩ := PX_take ht hFc hB
      exact vx_out (E := E) (fun x hx => (hne x hx).elim) hlocks hce hcv hcl (fun t ht ha => ⟨(), trivial, ⟨⟨hEE.1, (by rcases hEE.2 with h9 | h9 <;> simp only [f_stop, c_2, h9, ↓reduceIte, ite_self])⟩, by rw [ht]; exact hP, va_K.moved ha hK, hD⟩, hS.F ht⟩) hS.2.2 (by decide) (by decide)
    · skip
      obtain ⟨⟨hq1, hq2⟩, rfl⟩ := hw
      obtain ⟨hP, hD⟩ := PX_take ht hFc hB
      generalize H1 = H at hP hS ⊢
      have hP : va_P (dC, dI) vwCl (wX c0 a (n, wk, sd, bt, lt, lo, rk, ad, vl, bg, cm, sp, gd, rf, ct, rd, sm, js, sn, wl)) H := hP
      have hD : va_D A (wX c0 a (n, wk, sd, bt, lt, lo, rk, ad, vl, bg, cm, sp, gd, rf, ct, rd, sm, js, sn, wl)) := hD
      have hk : vp_in k n := in_of hq1 hq2 (by omega)
      refine lv_aload_n hx hb dX0_stop_10 rfl (lv_at hl 0 rfl) ?_
      refine va_get (D := (dC, dI)) (ci := 0) (v := .int sp) (C := RX0) (T := TX0) (N := 6) hx hb hts inX0 hown hK hP 0 rfl rfl 3 (by decide) (hE.t m_146 rfl) (fun _ h9 => h9) rfl dX0_stop_11 ?_
      refine lv_istore_n (lv' := [(2, .int sp), (0, .ref (a 0)), (1, .int k)]) hx hb dX0_stop_14 rfl hl (by decide) rfl (fun ls hl => ?_)
      refine lv_aload_n hx hb dX0_stop_15 rfl (lv_at hl 1 rfl) ?_
      refine lv_iload_n hx hb dX0_stop_16 rfl (lv_at hl 2 rfl) ?_
      refine va_put (D := (dC, dI)) (ci := 0) (v := .int k) (ty := .int) (C := RX0) (T := TX0) (N := 6) hx hb hts inX0 tyX0 tyX0_ok nmX0 hown hK hP hD hS 0 rfl rfl 3 (by decide) (hE.t m_146 rfl) (fun _ h9 => h9) rfl (by decide +kernel) rfl rfl (Nat.le_of_ble_eq_true rfl) dX0_stop_17 (fun H locs hP hD hS => ?_)
      have hP : va_P (dC, dI) vwCl (wX c0 a (n, wk, sd, bt, lt, lo, rk, ad, vl, bg, cm, k, gd, rf, ct, rd, sm, js, sn, wl)) H := hP
      have hD : va_D A (wX c0 a (n, wk, sd, bt, lt, lo, rk, ad, vl, bg, cm, k, gd, rf, ct, rd, sm, js, sn, wl)) := hD
      refine lv_iload_n hx hb dX0_stop_20 rfl (lv_at hl 0 rfl) ?_
      refine vx_ret ?_
      exact W.iret (v := sp) hx hb hr (fun t ht hW => ⟨⟨sp, (n, wk, sd, bt, lt, lo, rk, ad, vl, bg, cm, k, gd, rf, ct, rd, sm, js, sn, wl), rfl, (by simp only [f_stop, c_2, hq1, hq2, ↓reduceIte]), by rw [ht]; exact hP, va_K.moved hW.alike hK, hD⟩, hS.F ht⟩) hS.2.2 dX0_stop_21
set_option maxHeartbeats 4000000 in
set_option maxRecDepth 100000 in
/-- run -/
theorem c_X0_run (l : Launch) (hl9 : l.stackTraces = false) (dC : Nat → ClassId) (dI : Nat → Nat → Nat) (c0 : ClassId) (a : Nat → Nat) (sz : Nat) (n : Nat) (wk sd bt lt lo rk ad vl bg cm : Nat → Int32) (sp gd rf : Int32) (ct : Nat) (rd : Int32) (sm : Int64) (js sn wl : Int32) (w : Int32) (y : Int32) (hn : n ≤ 40) (hct : ct ≤ 24) : vx_Met l yX0_run wsX0_run ({ frames := 7, cells := 1, slots := 6, locals := 103 }) (va_Pc [.ref (a 0), .int w, .int y] (PX dC dI c0 a (n, wk, sd, bt, lt, lo, rk, ad, vl, bg, cm, sp, gd, rf, ct, rd, sm, js, sn, wl) sz)) (va_Qi (fun (r : Int32) (u : xS) => f_run (n, wk, sd, bt, lt, lo, rk, ad, vl, bg, cm, sp, gd, rf, ct, rd, sm, js, sn, wl) w y = (0, r.toInt64, u)) (BX dC dI c0 a (va_A (wX c0 a (n, wk, sd, bt, lt, lo, rk, ad, vl, bg, cm, sp, gd, rf, ct, rd, sm, js, sn, wl)) sz)) (va_A (wX c0 a (n, wk, sd, bt, lt, lo, rk, ad, vl, bg, cm, sp, gd, rf, ct, rd, sm, js, sn, wl)) sz)) (vx_X (fun _ : Unit => True) (fun (E : String) (_ : Unit) t => ((E = "java/lang/IllegalArgumentException" ∧ f_run (n, wk, sd, bt, lt, lo, rk, ad, vl, bg, cm, sp, gd, rf, ct, rd, sm, js, sn, wl) w y = (1, 0, (n, wk, sd, bt, lt, lo, rk, ad, vl, bg, cm, sp, gd, rf, ct, rd, sm, js, sn, wl)))) ∧ BX dC dI c0 a (va_A (wX c0 a (n, wk, sd, bt, lt, lo, rk, ad, vl, bg, cm, sp, gd, rf, ct, rd, sm, js, sn, wl)) sz) (n, wk, sd, bt, lt, lo, rk, ad, vl, bg, cm, sp, gd, rf, ct, rd, sm, js, sn, wl) t) (va_A (wX c0 a (n, wk, sd, bt, lt, lo, rk, ad, vl, bg, cm, sp, gd, rf, ct, rd, sm, js, sn, wl)) sz)) 1 6 (va_A (wX c0 a (n, wk, sd, bt, lt, lo, rk, ad, vl, bg, cm, sp, gd, rf, ct, rd, sm, js, sn, wl)) sz) := by
  refine vx_ofW (cc := cX0_run) (maxL := 4) (ret := (some .int)) (by decide) rfl ?_
  intro p e s m args below meth c s₁ B hml hne hv
  obtain ⟨rfl, hsz, hP, hK, hD0, hE⟩ := hv
  have hx := B.exec
  have hb := B.bytes
  have hr := B.returns
  have hown : s.vm.findClass RX0 = some m.cls := findClass_of_methodNamed B.named
  have hlocks := B.notSynchronized
  subst hsz
  have hD := hD0.self (sz := s.heap.size)
  generalize hAe : va_A (wX c0 a (n, wk, sd, bt, lt, lo, rk, ad, vl, bg, cm, sp, gd, rf, ct, rd, sm, js, sn, wl)) s.heap.size = A at hD hE ⊢
  have hts := hE.ts (args := ([.ref (a 0), .int w, .int y] : List Value).toArray)
  have hA : ∀ q : Nat, s.heap.size ≤ q → A q := fun q h => by rw [← hAe]; exact Or.inr h
  have hS : va_S A s.heap s.heap [] := va_S.rf
  have hP : va_P (dC, dI) vwCl (wX c0 a (n, wk, sd, bt, lt, lo, rk, ad, vl, bg, cm, sp, gd, rf, ct, rd, sm, js, sn, wl)) s.heap := hP
  have hl := lv_entry ([.ref (a 0), .int w, .int y]) (n := 4) (Nat.le_of_ble_eq_true rfl)
  rw [lg_entry_eq]
  generalize (lg_sl ([.ref (a 0), .int w, .int y]) ++ List.replicate (4 - (lg_sl ([.ref (a 0), .int w, .int y])).length) Slot.unset).toArray = ls at hl ⊢
  have hl : lv_has ls 4 [(0, .ref (a 0)), (1, .int w), (2, .int y)] := hl
  refine lv_iload_n hx hb dX0_run_0 rfl (lv_at hl 1 rfl) ?_
  refine lv_iconst (v := 1) hx hb dX0_run_1 (by decide) ?_
  refine lv_icmp_lt (tgt := 11) hx hb dX0_run_2 (by decide) (fun c_2 => ?_) (fun c_2 => ?_)
  · skip
    obtain ⟨sa, hsa⟩ := hE.st (RX0, 94, "workers is not 1 .. 6") (by decide)
    exact vx_throwS (own := RX0) (cls := "java/lang/IllegalArgumentException") (text := "workers is not 1 .. 6") (names := ["java/lang/RuntimeException", "java/lang/Exception"]) (ik := 48) (is := 94) (ic := 52) hx hb hl9 hown (by decide +kernel) (by decide +kernel) (hE.t m_246 rfl) (hE.t m_32 rfl) hsa (vx_hat (L := (vx_atS RX0 52 "java/lang/IllegalArgumentException" ["java/lang/RuntimeException", "java/lang/Exception"])) (B := [.castable "java/lang/IllegalArgumentException" "java/lang/IllegalArgumentException", .declares ⟨"java/lang/RuntimeException", "<init>", "(Ljava/lang/String;)V"⟩, .declares ⟨"java/lang/Exception", "<init>", "(Ljava/lang/String;)V"⟩, .declares ⟨"java/lang/Throwable", "<init>", "(Ljava/lang/String;)V"⟩]) (fun w hw => hts w (List.mem_filter.mpr ⟨at_X0_IllegalArgumentException w hw, (List.mem_filter.mp hw).2⟩)) ab_X0_IllegalArgumentException (vx_c (hE.t m_248 rfl) (vx_c (hE.t m_182 rfl) (vx_c (hE.t m_184 rfl) (vx_c (hE.t m_186 rfl) vx_n))))) gd_X0_IllegalArgumentException hE.zu hE.zn hS (by rw [hml]; exact hl.1) dX0_run_11 dX0_run_14 dX0_run_15 dX0_run_17 dX0_run_20 (fun x hx => (hne x hx).elim) (by decide) (by decide) (by decide) (by decide) hlocks (fun t hvm h1 h2 => ⟨(), trivial, ⟨⟨rfl, (by simp only [f_run, c_2, ↓reduceIte])⟩, (thr_B hP hK hD hS hvm h1 h2).1⟩, (thr_B hP hK hD hS hvm h1 h2).2⟩) hS.2.2 (by decide) (by decide)
  · skip
    refine lv_iload_n hx hb dX0_run_5 rfl (lv_at hl 1 rfl) ?_
    refine lv_bipush (v := 6) hx hb dX0_run_6 (by decide) ?_
    refine lv_icmp_le (tgt := 21) hx hb dX0_run_8 (by decide) (fun c_8 => ?_) (fun c_8 => ?_)
    · skip
      refine lv_iload_n hx hb dX0_run_21 rfl (lv_at hl 1 rfl) ?_
      refine lv_aload_n hx hb dX0_run_22 rfl (lv_at hl 0 rfl) ?_
      refine va_get (D := (dC, dI)) (ci := 0) (v := .ref (a 1)) (C := RX0) (T := TX0) (N := 6) hx hb hts inX0 hown hK hP 0 rfl rfl 0 (by decide) (hE.t m_143 rfl) (fun _ h9 => h9) rfl dX0_run_23 ?_
      have hFc := fre hD hS hA
      refine va_calli (va_runVN (As := []) (rest := [.int w]) ⟨hx, hb, hml, hown, hts⟩ (c_X1_allLosses l dC dI c0 a _ n wk sd bt lt lo rk ad vl bg cm sp gd rf ct rd sm js sn wl hn) ⟨va_cnB (host := "DrawShares") 0 hts gX0_run_X1_allLosses rfl rfl rfl (hE.t0 m_316 rfl) (hE.t m_23 rfl) (by decide +kernel) ⟨(Nat.le_of_ble_eq_true rfl), (Nat.le_of_ble_eq_true rfl)⟩, hE.t m_318 rfl, hE.t m_3 rfl⟩ ⟨PX_blind, va_recv hK hP (ci := 1) (q0 := 1) rfl rfl, PX_give hP hK hD hE hS hFc⟩ rfl rfl hl.1 rfl (lv_room (Nat.le_of_ble_eq_true rfl)) dX0_run_26 ⟨by decide, by decide⟩) hS (fun q _ h => hFc q h) hFc (fun r_26 u t H1 locs ht hvm hw hB hz1 hk1 hS => ?_)
      obtain ⟨rfl, rfl⟩ := hw
      obtain ⟨hP, hD⟩ := PX_take ht hFc hB
      generalize H1 = H at hP hS ⊢
      have hP : va_P (dC, dI) vwCl (wX c0 a (n, wk, sd, bt, lt, lo, rk, ad, vl, bg, cm, sp, gd, rf, ct, rd, sm, js, sn, wl)) H := hP
      have hD : va_D A (wX c0 a (n, wk, sd, bt, lt, lo, rk, ad, vl, bg, cm, sp, gd, rf, ct, rd, sm, js, sn, wl)) := hD
      refine lv_isub hx hb dX0_run_29 ?_
      refine lv_istore_n (lv' := [(3, .int (w - (sumL lo n))), (0, .ref (a 0)), (1, .int w), (2, .int y)]) hx hb dX0_run_30 rfl hl (by decide) rfl (fun ls hl => ?_)
      refine lv_iload_n hx hb dX0_run_31 rfl (lv_at hl 0 rfl) ?_
      refine lv_iconst (v := 1) hx hb dX0_run_32 (by decide) ?_
      refine lv_icmp_ge (tgt := 49) hx hb dX0_run_33 (by decide) (fun c_33 => ?_) (fun c_33 => ?_)
      · skip
        refine lv_aload_n hx hb dX0_run_49 rfl (lv_at hl 1 rfl) ?_
        refine lv_dup hx hb dX0_run_50 rfl ?_
        refine va_get (D := (dC, dI)) (ci := 0) (v := .int gd) (C := RX0) (T := TX0) (N := 6) hx hb hts inX0 hown hK hP 0 rfl rfl 4 (by decide) (hE.t m_147 rfl) (fun _ h9 => h9) rfl dX0_run_51 ?_
        refine lv_iconst (v := 1) hx hb dX0_run_54 (by decide) ?_
        refine lv_iadd hx hb dX0_run_55 ?_
        refine va_put (D := (dC, dI)) (ci := 0) (v := .int (gd + 1)) (ty := .int) (C := RX0) (T := TX0) (N := 6) hx hb hts inX0 tyX0 tyX0_ok nmX0 hown hK hP hD hS 0 rfl rfl 4 (by decide) (hE.t m_147 rfl) (fun _ h9 => h9) rfl (by decide +kernel) rfl rfl (Nat.le_of_ble_eq_true rfl) dX0_run_56 (fun H locs hP hD hS => ?_)
        have hP : va_P (dC, dI) vwCl (wX c0 a (n, wk, sd, bt, lt, lo, rk, ad, vl, bg, cm, sp, gd + 1, rf, ct, rd, sm, js, sn, wl)) H := hP
        have hD : va_D A (wX c0 a (n, wk, sd, bt, lt, lo, rk, ad, vl, bg, cm, sp, gd + 1, rf, ct, rd, sm, js, sn, wl)) := hD
        refine lv_aload_n hx hb dX0_run_59 rfl (lv_at hl 1 rfl) ?_
        refine va_get (D := (dC, dI)) (ci := 0) (v := .ref (a 3)) (C := RX0) (T := TX0) (N := 6) hx hb hts inX0 hown hK hP 0 rfl rfl 2 (by decide) (hE.t m_145 rfl) (fun _ h9 => h9) rfl dX0_run_60 ?_
        refine lv_iload_n hx hb dX0_run_63 rfl (lv_at hl 0 rfl) ?_
        refine va_putN (D := (dC, dI)) (ci := 3) (v := .int (w - (sumL lo n))) (ty := .int) (C := RX3) (T := TX3) (N := 8) hx hb hts inX3 tyX3 tyX3_ok nmX3 hown hK hP hD hS 3 rfl rfl 7 (by decide) (hE.t m_125 rfl) (fun _ h9 => h9) rfl (by decide +kernel) rfl rfl (Nat.le_of_ble_eq_true rfl) dX0_run_64 (fun H locs hP hD hS => ?_)
        have hP : va_P (dC, dI) vwCl (wX c0 a (n, wk, sd, bt, lt, lo, rk, ad, vl, bg, cm, sp, gd + 1, rf, ct, rd, sm, js, sn, w - (sumL lo n))) H := hP
        have hD : va_D A (wX c0 a (n, wk, sd, bt, lt, lo, rk, ad, vl, bg, cm, sp, gd + 1, rf, ct, rd, sm, js, sn, w - (sumL lo n))) := hD
        refine lv_aload_n hx hb dX0_run_67 rfl (lv_at hl 1 rfl) ?_
        refine va_get (D := (dC, dI)) (ci := 0) (v := .ref (a 3)) (C := RX0) (T := TX0) (N := 6) hx hb hts inX0 hown hK hP 0 rfl rfl 2 (by decide) (hE.t m_145 rfl) (fun _ h9 => h9) rfl dX0_run_68 ?_
        refine lv_aload_n hx hb dX0_run_71 rfl (lv_at hl 1 rfl) ?_
        refine va_get (D := (dC, dI)) (ci := 0) (v := .ref (a 1)) (C := RX0) (T := TX0) (N := 6) hx hb hts inX0 hown hK hP 0 rfl rfl 0 (by decide) (hE.t m_143 rfl) (fun _ h9 => h9) rfl dX0_run_72 ?_
        have hFc := fre hD hS hA
        refine va_callv (va_runVN (As := [.ref (a 1)]) (rest := []) ⟨hx, hb, hml, hown, hts⟩ (c_X3_doAll l dC dI c0 a _ n wk sd bt lt lo rk ad vl bg cm sp (gd + 1) rf ct rd sm js sn (w - (sumL lo n)) hn) ⟨va_cnB (host := "DrawShares") 1 hts gX0_run_X3_doAll rfl rfl rfl (hE.t0 m_320 rfl) (hE.t m_26 rfl) (by decide +kernel) ⟨(Nat.le_of_ble_eq_true rfl), (Nat.le_of_ble_eq_true rfl)⟩, hE.t m_322 rfl, hE.t m_4 rfl⟩ ⟨PX_blind, va_recv hK hP (ci := 3) (q0 := 3) rfl rfl, PX_give hP hK hD hE hS hFc⟩ rfl rfl hl.1 rfl (lv_room (Nat.le_of_ble_eq_true rfl)) dX0_run_75 ⟨by decide, by decide⟩) hS (fun q _ h => hFc q h) hFc (fun u t H1 locs ht hvm hw hB hz1 hk1 hS => ?_)
        obtain rfl := hw
        obtain ⟨hP, hD⟩ := PX_take ht hFc hB
        generalize H1 = H at hP hS ⊢
        have hP : va_P (dC, dI) vwCl (wX c0 a (n, wk, sd, bt, lt, lo, rk, ad, fil (fun j => lastV wk sd (nI j)) vl n, fil (fun j => lo j + 1) bg n, cm, sp, gd + 1, rf, ct, 1, sm, js, sumL (fun j => swl wk lt lo (nI j)) n, w - (sumL lo n))) H := hP
        have hD : va_D A (wX c0 a (n, wk, sd, bt, lt, lo, rk, ad, fil (fun j => lastV wk sd (nI j)) vl n, fil (fun j => lo j + 1) bg n, cm, sp, gd + 1, rf, ct, 1, sm, js, sumL (fun j => swl wk lt lo (nI j)) n, w - (sumL lo n))) := hD
        refine lv_aload_n hx hb dX0_run_78 rfl (lv_at hl 1 rfl) ?_
        refine va_get (D := (dC, dI)) (ci := 0) (v := .ref (a 3)) (C := RX0) (T := TX0) (N := 6) hx hb hts inX0 hown hK hP 0 rfl rfl 2 (by decide) (hE.t m_145 rfl) (fun _ h9 => h9) rfl dX0_run_79 ?_
        refine lv_aload_n hx hb dX0_run_82 rfl (lv_at hl 1 rfl) ?_
        refine va_get (D := (dC, dI)) (ci := 0) (v := .ref (a 1)) (C := RX0) (T := TX0) (N := 6) hx hb hts inX0 hown hK hP 0 rfl rfl 0 (by decide) (hE.t m_143 rfl) (fun _ h9 => h9) rfl dX0_run_83 ?_
        refine lv_aload_n hx hb dX0_run_86 rfl (lv_at hl 1 rfl) ?_
        refine va_get (D := (dC, dI)) (ci := 0) (v := .ref (a 2)) (C := RX0) (T := TX0) (N := 6) hx hb hts inX0 hown hK hP 0 rfl rfl 1 (by decide) (hE.t m_144 rfl) (fun _ h9 => h9) rfl dX0_run_87 ?_
        refine lv_aload_n hx hb dX0_run_90 rfl (lv_at hl 1 rfl) ?_
        refine va_get (D := (dC, dI)) (ci := 0) (v := .int sp) (C := RX0) (T := TX0) (N := 6) hx hb hts inX0 hown hK hP 0 rfl rfl 3 (by decide) (hE.t m_146 rfl) (fun _ h9 => h9) rfl dX0_run_91 ?_
        have hFc := fre hD hS hA
        refine va_calli (va_runVN (As := [.ref (a 1), .ref (a 2), .int sp]) (rest := []) ⟨hx, hb, hml, hown, hts⟩ (c_X3_joinAll l dC dI c0 a _ n wk sd bt lt lo rk ad (fil (fun j => lastV wk sd (nI j)) vl n) (fil (fun j => lo j + 1) bg n) cm sp (gd + 1) rf ct 1 sm js (sumL (fun j => swl wk lt lo (nI j)) n) (w - (sumL lo n)) sp hn hct) ⟨va_cnB (host := "DrawShares") 3 hts gX0_run_X3_joinAll rfl rfl rfl (hE.t0 m_340 rfl) (hE.t m_26 rfl) (by decide +kernel) ⟨(Nat.le_of_ble_eq_true rfl), (Nat.le_of_ble_eq_true rfl)⟩, hE.t m_342 rfl, hE.t m_8 rfl⟩ ⟨PX_blind, va_recv hK hP (ci := 3) (q0 := 3) rfl rfl, PX_give hP hK hD hE hS hFc⟩ rfl rfl hl.1 rfl (lv_room (Nat.le_of_ble_eq_true rfl)) dX0_run_94 ⟨by decide, by decide⟩) hS (fun q _ h => hFc q h) hFc (fun r_94 u t H1 locs ht hvm hw hB hz1 hk1 hS => ?_)
        obtain ⟨s9, c9, j9, hJ9, rfl⟩ := hw
        obtain ⟨hP, hD⟩ := PX_take ht hFc hB
        generalize H1 = H at hP hS ⊢
        have hP : va_P (dC, dI) vwCl (wX c0 a (n, wk, sd, bt, lt, lo, rk, ad, fil (fun j => lastV wk sd (nI j)) vl n, fil (fun j => lo j + 1) bg n, c9, sp, gd + 1, rf, ct, 1, s9, nI j9, sumL (fun j => swl wk lt lo (nI j)) n, w - (sumL lo n))) H := hP
        have hD : va_D A (wX c0 a (n, wk, sd, bt, lt, lo, rk, ad, fil (fun j => lastV wk sd (nI j)) vl n, fil (fun j => lo j + 1) bg n, c9, sp, gd + 1, rf, ct, 1, s9, nI j9, sumL (fun j => swl wk lt lo (nI j)) n, w - (sumL lo n))) := hD
        refine vx_ret ?_
        refine W.widen (k := 1) (n := 6) (by omega) (by omega) ?_
        exact W.iret (v := r_94) hx hb hr (fun t ht hW => ⟨⟨r_94, (n, wk, sd, bt, lt, lo, rk, ad, fil (fun j => lastV wk sd (nI j)) vl n, fil (fun j => lo j + 1) bg n, c9, sp, gd + 1, rf, ct, 1, s9, nI j9, sumL (fun j => swl wk lt lo (nI j)) n, w - (sumL lo n)), rfl, (by simp only [f_run, c_2, c_8, c_33, ↓reduceIte, hJ9]), by rw [ht]; exact hP, va_K.moved hW.alike hK, hD⟩, hS.F ht⟩) hS.2.2 dX0_run_97
      · skip
        refine lv_aload_n hx hb dX0_run_36 rfl (lv_at hl 1 rfl) ?_
        refine lv_dup hx hb dX0_run_37 rfl ?_
        refine va_get (D := (dC, dI)) (ci := 0) (v := .int rf) (C := RX0) (T := TX0) (N := 6) hx hb hts inX0 hown hK hP 0 rfl rfl 5 (by decide) (hE.t m_148 rfl) (fun _ h9 => h9) rfl dX0_run_38 ?_
        refine lv_iconst (v := 1) hx hb dX0_run_41 (by decide) ?_
        refine lv_iadd hx hb dX0_run_42 ?_
        refine va_put (D := (dC, dI)) (ci := 0) (v := .int (rf + 1)) (ty := .int) (C := RX0) (T := TX0) (N := 6) hx hb hts inX0 tyX0 tyX0_ok nmX0 hown hK hP hD hS 0 rfl rfl 5 (by decide) (hE.t m_148 rfl) (fun _ h9 => h9) rfl (by decide +kernel) rfl rfl (Nat.le_of_ble_eq_true rfl) dX0_run_43 (fun H locs hP hD hS => ?_)
        have hP : va_P (dC, dI) vwCl (wX c0 a (n, wk, sd, bt, lt, lo, rk, ad, vl, bg, cm, sp, gd, rf + 1, ct, rd, sm, js, sn, wl)) H := hP
        have hD : va_D A (wX c0 a (n, wk, sd, bt, lt, lo, rk, ad, vl, bg, cm, sp, gd, rf + 1, ct, rd, sm, js, sn, wl)) := hD
        refine lv_bipush (v := (-2)) hx hb dX0_run_46 (by decide) ?_
        refine vx_ret ?_
        refine W.widen (k := 1) (n := 6) (by omega) (by omega) ?_
        exact W.iret (v := (-2)) hx hb hr (fun t ht hW => ⟨⟨(-2), (n, wk, sd, bt, lt, lo, rk, ad, vl, bg, cm, sp, gd, rf + 1, ct, rd, sm, js, sn, wl), rfl, (by simp only [f_run, c_2, c_8, c_33, ↓reduceIte]), by rw [ht]; exact hP, va_K.moved hW.alike hK, hD⟩, hS.F ht⟩) hS.2.2 dX0_run_48
    · skip
      obtain ⟨sa, hsa⟩ := hE.st (RX0, 94, "workers is not 1 .. 6") (by decide)
      exact vx_throwS (own := RX0) (cls := "java/lang/IllegalArgumentException") (text := "workers is not 1 .. 6") (names := ["java/lang/RuntimeException", "java/lang/Exception"]) (ik := 48) (is := 94) (ic := 52) hx hb hl9 hown (by decide +kernel) (by decide +kernel) (hE.t m_246 rfl) (hE.t m_32 rfl) hsa (vx_hat (L := (vx_atS RX0 52 "java/lang/IllegalArgumentException" ["java/lang/RuntimeException", "java/lang/Exception"])) (B := [.castable "java/lang/IllegalArgumentException" "java/lang/IllegalArgumentException", .declares ⟨"java/lang/RuntimeException", "<init>", "(Ljava/lang/String;)V"⟩, .declares ⟨"java/lang/Exception", "<init>", "(Ljava/lang/String;)V"⟩, .declares ⟨"java/lang/Throwable", "<init>", "(Ljava/lang/String;)V"⟩]) (fun w hw => hts w (List.mem_filter.mpr ⟨at_X0_IllegalArgumentException w hw, (List.mem_filter.mp hw).2⟩)) ab_X0_IllegalArgumentException (vx_c (hE.t m_248 rfl) (vx_c (hE.t m_182 rfl) (vx_c (hE.t m_184 rfl) (vx_c (hE.t m_186 rfl) vx_n))))) gd_X0_IllegalArgumentException hE.zu hE.zn hS (by rw [hml]; exact hl.1) dX0_run_11 dX0_run_14 dX0_run_15 dX0_run_17 dX0_run_20 (fun x hx => (hne x hx).elim) (by decide) (by decide) (by decide) (by decide) hlocks (fun t hvm h1 h2 => ⟨(), trivial, ⟨⟨rfl, (by simp only [f_run, c_2, c_8, ↓reduceIte])⟩, (thr_B hP hK hD hS hvm h1 h2).1⟩, (thr_B hP hK hD hS hvm h1 h2).2⟩) hS.2.2 (by decide) (by decide)
set_option maxHeartbeats 4000000 in
set_option maxRecDepth 100000 in
/-- joined -/
theorem c_X0_joined (l : Launch) (hl9 : l.stackTraces = false) (dC : Nat → ClassId) (dI : Nat → Nat → Nat) (c0 : ClassId) (a : Nat → Nat) (sz : Nat) (n : Nat) (wk sd bt lt lo rk ad vl bg cm : Nat → Int32) (sp gd rf : Int32) (ct : Nat) (rd : Int32) (sm : Int64) (js sn wl : Int32) (hn : n ≤ 40) : vx_Met l yX0_joined wsX0_joined ({ frames := 7, cells := 1, slots := 6, locals := 103 }) (va_Pc [.ref (a 0)] (PX dC dI c0 a (n, wk, sd, bt, lt, lo, rk, ad, vl, bg, cm, sp, gd, rf, ct, rd, sm, js, sn, wl) sz)) (va_Ql (fun (r : Int64) (u : xS) => f_joined (n, wk, sd, bt, lt, lo, rk, ad, vl, bg, cm, sp, gd, rf, ct, rd, sm, js, sn, wl) = (0, r, u)) (BX dC dI c0 a (va_A (wX c0 a (n, wk, sd, bt, lt, lo, rk, ad, vl, bg, cm, sp, gd, rf, ct, rd, sm, js, sn, wl)) sz)) (va_A (wX c0 a (n, wk, sd, bt, lt, lo, rk, ad, vl, bg, cm, sp, gd, rf, ct, rd, sm, js, sn, wl)) sz)) (vx_X (fun _ : Unit => True) (fun (E : String) (_ : Unit) t => ((E = "java/lang/IllegalStateException" ∧ f_joined (n, wk, sd, bt, lt, lo, rk, ad, vl, bg, cm, sp, gd, rf, ct, rd, sm, js, sn, wl) = (1, 0, (n, wk, sd, bt, lt, lo, rk, ad, vl, bg, cm, sp, gd, rf, ct, rd, sm, js, sn, wl)))) ∧ BX dC dI c0 a (va_A (wX c0 a (n, wk, sd, bt, lt, lo, rk, ad, vl, bg, cm, sp, gd, rf, ct, rd, sm, js, sn, wl)) sz) (n, wk, sd, bt, lt, lo, rk, ad, vl, bg, cm, sp, gd, rf, ct, rd, sm, js, sn, wl) t) (va_A (wX c0 a (n, wk, sd, bt, lt, lo, rk, ad, vl, bg, cm, sp, gd, rf, ct, rd, sm, js, sn, wl)) sz)) 1 6 (va_A (wX c0 a (n, wk, sd, bt, lt, lo, rk, ad, vl, bg, cm, sp, gd, rf, ct, rd, sm, js, sn, wl)) sz) := by
  refine vx_ofW (cc := cX0_joined) (maxL := 1) (ret := (some .long)) (by decide) rfl ?_
  intro p e s m args below meth c s₁ B hml hne hv
  obtain ⟨rfl, hsz, hP, hK, hD0, hE⟩ := hv
  have hx := B.exec
  have hb := B.bytes
  have hr := B.returns
  have hown : s.vm.findClass RX0 = some m.cls := findClass_of_methodNamed B.named
  have hlocks := B.notSynchronized
  subst hsz
  have hD := hD0.self (sz := s.heap.size)
  generalize hAe : va_A (wX c0 a (n, wk, sd, bt, lt, lo, rk, ad, vl, bg, cm, sp, gd, rf, ct, rd, sm, js, sn, wl)) s.heap.size = A at hD hE ⊢
  have hts := hE.ts (args := ([.ref (a 0)] : List Value).toArray)
  have hA : ∀ q : Nat, s.heap.size ≤ q → A q := fun q h => by rw [← hAe]; exact Or.inr h
  have hS : va_S A s.heap s.heap [] := va_S.rf
  have hP : va_P (dC, dI) vwCl (wX c0 a (n, wk, sd, bt, lt, lo, rk, ad, vl, bg, cm, sp, gd, rf, ct, rd, sm, js, sn, wl)) s.heap := hP
  have hl := lv_entry ([.ref (a 0)]) (n := 1) (Nat.le_of_ble_eq_true rfl)
  rw [lg_entry_eq]
  generalize (lg_sl ([.ref (a 0)]) ++ List.replicate (1 - (lg_sl ([.ref (a 0)])).length) Slot.unset).toArray = ls at hl ⊢
  have hl : lv_has ls 1 [(0, .ref (a 0))] := hl
  refine lv_aload_n hx hb dX0_joined_0 rfl (lv_at hl 0 rfl) ?_
  have hFc := fre hD hS hA
  refine vx_callv (vx_runV (As := []) (rest := []) ⟨hx, hb, hml, hown, hts⟩ (c_X0_needRun l hl9 dC dI c0 a _ n wk sd bt lt lo rk ad vl bg cm sp gd rf ct rd sm js sn wl ) (cwV 0 hts gX0_joined_X0_needRun rfl rfl rfl (by decide +kernel) ⟨(Nat.le_of_ble_eq_true rfl), (Nat.le_of_ble_eq_true rfl)⟩) ⟨PX_blind, va_recv hK hP (ci := 0) (q0 := 0) rfl rfl, PX_give hP hK hD hE hS hFc⟩ rfl rfl hl.1 rfl (lv_room (Nat.le_of_ble_eq_true rfl)) dX0_joined_1 ⟨by decide, by decide⟩) hS (fun q _ h => hFc q h) hFc (fun q _ h => hFc q h) (fun E ce q9 u t H1 locs ht hvm hw hB hz1 hk1 hS hce hcv hcl => ?_) (fun u t H1 locs ht hvm hw hB hz1 hk1 hS => ?_)
  · skip
    obtain ⟨hEE, hB⟩ := hB
    obtain ⟨hP, hD⟩ := PX_take ht hFc hB
    exact vx_out (E := E) (fun x hx => (hne x hx).elim) hlocks hce hcv hcl (fun t ht ha => ⟨(), trivial, ⟨⟨hEE.1, (by simp only [f_joined, hEE.2, ↓reduceIte])⟩, by rw [ht]; exact hP, va_K.moved ha hK, hD⟩, hS.F ht⟩) hS.2.2 (by decide) (by decide)
  · skip
    obtain ⟨hr1, rfl⟩ := hw
    obtain ⟨hP, hD⟩ := PX_take ht hFc hB
    generalize H1 = H at hP hS ⊢
    have hP : va_P (dC, dI) vwCl (wX c0 a (n, wk, sd, bt, lt, lo, rk, ad, vl, bg, cm, sp, gd, rf, ct, rd, sm, js, sn, wl)) H := hP
    have hD : va_D A (wX c0 a (n, wk, sd, bt, lt, lo, rk, ad, vl, bg, cm, sp, gd, rf, ct, rd, sm, js, sn, wl)) := hD
    refine lv_aload_n hx hb dX0_joined_4 rfl (lv_at hl 0 rfl) ?_
    refine va_get (D := (dC, dI)) (ci := 0) (v := .ref (a 3)) (C := RX0) (T := TX0) (N := 6) hx hb hts inX0 hown hK hP 0 rfl rfl 2 (by decide) (hE.t m_145 rfl) (fun _ h9 => h9) rfl dX0_joined_5 ?_
    refine va_getN (D := (dC, dI)) (ci := 3) (v := .long sm) (C := RX3) (T := TX3) (N := 8) hx hb hts inX3 hown hK hP 3 rfl rfl 4 (by decide) (hE.t m_120 rfl) (fun _ h9 => h9) rfl dX0_joined_8 ?_
    refine vx_ret ?_
    exact W.lret (v := sm) hx hb hr (fun t ht hW => ⟨⟨sm, (n, wk, sd, bt, lt, lo, rk, ad, vl, bg, cm, sp, gd, rf, ct, rd, sm, js, sn, wl), rfl, (by simp only [f_joined, hr1, ↓reduceIte]), by rw [ht]; exact hP, va_K.moved hW.alike hK, hD⟩, hS.F ht⟩) hS.2.2 dX0_joined_11
set_option maxHeartbeats 4000000 in
set_option maxRecDepth 100000 in
/-- many -/
theorem c_X0_many (l : Launch) (hl9 : l.stackTraces = false) (dC : Nat → ClassId) (dI : Nat → Nat → Nat) (c0 : ClassId) (a : Nat → Nat) (sz : Nat) (n : Nat) (wk sd bt lt lo rk ad vl bg cm : Nat → Int32) (sp gd rf : Int32) (ct : Nat) (rd : Int32) (sm : Int64) (js sn wl : Int32) (hn : n ≤ 40) : vx_Met l yX0_many wsX0_many ({ frames := 7, cells := 1, slots := 6, locals := 103 }) (va_Pc [.ref (a 0)] (PX dC dI c0 a (n, wk, sd, bt, lt, lo, rk, ad, vl, bg, cm, sp, gd, rf, ct, rd, sm, js, sn, wl) sz)) (va_Qi (fun (r : Int32) (u : xS) => f_many (n, wk, sd, bt, lt, lo, rk, ad, vl, bg, cm, sp, gd, rf, ct, rd, sm, js, sn, wl) = (0, r.toInt64, u)) (BX dC dI c0 a (va_A (wX c0 a (n, wk, sd, bt, lt, lo, rk, ad, vl, bg, cm, sp, gd, rf, ct, rd, sm, js, sn, wl)) sz)) (va_A (wX c0 a (n, wk, sd, bt, lt, lo, rk, ad, vl, bg, cm, sp, gd, rf, ct, rd, sm, js, sn, wl)) sz)) (vx_X (fun _ : Unit => True) (fun (E : String) (_ : Unit) t => ((E = "java/lang/IllegalStateException" ∧ f_many (n, wk, sd, bt, lt, lo, rk, ad, vl, bg, cm, sp, gd, rf, ct, rd, sm, js, sn, wl) = (1, 0, (n, wk, sd, bt, lt, lo, rk, ad, vl, bg, cm, sp, gd, rf, ct, rd, sm, js, sn, wl)))) ∧ BX dC dI c0 a (va_A (wX c0 a (n, wk, sd, bt, lt, lo, rk, ad, vl, bg, cm, sp, gd, rf, ct, rd, sm, js, sn, wl)) sz) (n, wk, sd, bt, lt, lo, rk, ad, vl, bg, cm, sp, gd, rf, ct, rd, sm, js, sn, wl) t) (va_A (wX c0 a (n, wk, sd, bt, lt, lo, rk, ad, vl, bg, cm, sp, gd, rf, ct, rd, sm, js, sn, wl)) sz)) 1 6 (va_A (wX c0 a (n, wk, sd, bt, lt, lo, rk, ad, vl, bg, cm, sp, gd, rf, ct, rd, sm, js, sn, wl)) sz) := by
  refine vx_ofW (cc := cX0_many) (maxL := 1) (ret := (some .int)) (by decide) rfl ?_
  intro p e s m args below meth c s₁ B hml hne hv
  obtain ⟨rfl, hsz, hP, hK, hD0, hE⟩ := hv
  have hx := B.exec
  have hb := B.bytes
  have hr := B.returns
  have hown : s.vm.findClass RX0 = some m.cls := findClass_of_methodNamed B.named
  have hlocks := B.notSynchronized
  subst hsz
  have hD := hD0.self (sz := s.heap.size)
  generalize hAe : va_A (wX c0 a (n, wk, sd, bt, lt, lo, rk, ad, vl, bg, cm, sp, gd, rf, ct, rd, sm, js, sn, wl)) s.heap.size = A at hD hE ⊢
  have hts := hE.ts (args := ([.ref (a 0)] : List Value).toArray)
  have hA : ∀ q : Nat, s.heap.size ≤ q → A q := fun q h => by rw [← hAe]; exact Or.inr h
  have hS : va_S A s.heap s.heap [] := va_S.rf
  have hP : va_P (dC, dI) vwCl (wX c0 a (n, wk, sd, bt, lt, lo, rk, ad, vl, bg, cm, sp, gd, rf, ct, rd, sm, js, sn, wl)) s.heap := hP
  have hl := lv_entry ([.ref (a 0)]) (n := 1) (Nat.le_of_ble_eq_true rfl)
  rw [lg_entry_eq]
  generalize (lg_sl ([.ref (a 0)]) ++ List.replicate (1 - (lg_sl ([.ref (a 0)])).length) Slot.unset).toArray = ls at hl ⊢
  have hl : lv_has ls 1 [(0, .ref (a 0))] := hl
  refine lv_aload_n hx hb dX0_many_0 rfl (lv_at hl 0 rfl) ?_
  have hFc := fre hD hS hA
  refine vx_callv (vx_runV (As := []) (rest := []) ⟨hx, hb, hml, hown, hts⟩ (c_X0_needRun l hl9 dC dI c0 a _ n wk sd bt lt lo rk ad vl bg cm sp gd rf ct rd sm js sn wl ) (cwV 0 hts gX0_many_X0_needRun rfl rfl rfl (by decide +kernel) ⟨(Nat.le_of_ble_eq_true rfl), (Nat.le_of_ble_eq_true rfl)⟩) ⟨PX_blind, va_recv hK hP (ci := 0) (q0 := 0) rfl rfl, PX_give hP hK hD hE hS hFc⟩ rfl rfl hl.1 rfl (lv_room (Nat.le_of_ble_eq_true rfl)) dX0_many_1 ⟨by decide, by decide⟩) hS (fun q _ h => hFc q h) hFc (fun q _ h => hFc q h) (fun E ce q9 u t H1 locs ht hvm hw hB hz1 hk1 hS hce hcv hcl => ?_) (fun u t H1 locs ht hvm hw hB hz1 hk1 hS => ?_)
  · skip
    obtain ⟨hEE, hB⟩ := hB
    obtain ⟨hP, hD⟩ := PX_take ht hFc hB
    exact vx_out (E := E) (fun x hx => (hne x hx).elim) hlocks hce hcv hcl (fun t ht ha => ⟨(), trivial, ⟨⟨hEE.1, (by simp only [f_many, hEE.2, ↓reduceIte])⟩, by rw [ht]; exact hP, va_K.moved ha hK, hD⟩, hS.F ht⟩) hS.2.2 (by decide) (by decide)
  · skip
    obtain ⟨hr1, rfl⟩ := hw
    obtain ⟨hP, hD⟩ := PX_take ht hFc hB
    generalize H1 = H at hP hS ⊢
    have hP : va_P (dC, dI) vwCl (wX c0 a (n, wk, sd, bt, lt, lo, rk, ad, vl, bg, cm, sp, gd, rf, ct, rd, sm, js, sn, wl)) H := hP
    have hD : va_D A (wX c0 a (n, wk, sd, bt, lt, lo, rk, ad, vl, bg, cm, sp, gd, rf, ct, rd, sm, js, sn, wl)) := hD
    refine lv_aload_n hx hb dX0_many_4 rfl (lv_at hl 0 rfl) ?_
    refine va_get (D := (dC, dI)) (ci := 0) (v := .ref (a 3)) (C := RX0) (T := TX0) (N := 6) hx hb hts inX0 hown hK hP 0 rfl rfl 2 (by decide) (hE.t m_145 rfl) (fun _ h9 => h9) rfl dX0_many_5 ?_
    refine va_getN (D := (dC, dI)) (ci := 3) (v := .int js) (C := RX3) (T := TX3) (N := 8) hx hb hts inX3 hown hK hP 3 rfl rfl 5 (by decide) (hE.t m_122 rfl) (fun _ h9 => h9) rfl dX0_many_8 ?_
    refine vx_ret ?_
    exact W.iret (v := js) hx hb hr (fun t ht hW => ⟨⟨js, (n, wk, sd, bt, lt, lo, rk, ad, vl, bg, cm, sp, gd, rf, ct, rd, sm, js, sn, wl), rfl, (by simp only [f_many, hr1, ↓reduceIte]), by rw [ht]; exact hP, va_K.moved hW.alike hK, hD⟩, hS.F ht⟩) hS.2.2 dX0_many_11
set_option maxHeartbeats 4000000 in
set_option maxRecDepth 100000 in
/-- value -/
theorem c_X0_value (l : Launch) (hl9 : l.stackTraces = false) (dC : Nat → ClassId) (dI : Nat → Nat → Nat) (c0 : ClassId) (a : Nat → Nat) (sz : Nat) (n : Nat) (wk sd bt lt lo rk ad vl bg cm : Nat → Int32) (sp gd rf : Int32) (ct : Nat) (rd : Int32) (sm : Int64) (js sn wl : Int32) (k : Int32) (hn : n ≤ 40) : vx_Met l yX0_value wsX0_value ({ frames := 7, cells := 2, slots := 12, locals := 103 }) (va_Pc [.ref (a 0), .int k] (PX dC dI c0 a (n, wk, sd, bt, lt, lo, rk, ad, vl, bg, cm, sp, gd, rf, ct, rd, sm, js, sn, wl) sz)) (va_Qi (fun (r : Int32) (u : xS) => f_value (n, wk, sd, bt, lt, lo, rk, ad, vl, bg, cm, sp, gd, rf, ct, rd, sm, js, sn, wl) k = (0, r.toInt64, u)) (BX dC dI c0 a (va_A (wX c0 a (n, wk, sd, bt, lt, lo, rk, ad, vl, bg, cm, sp, gd, rf, ct, rd, sm, js, sn, wl)) sz)) (va_A (wX c0 a (n, wk, sd, bt, lt, lo, rk, ad, vl, bg, cm, sp, gd, rf, ct, rd, sm, js, sn, wl)) sz)) (vx_X (fun _ : Unit => True) (fun (E : String) (_ : Unit) t => ((E = "java/lang/IndexOutOfBoundsException" ∧ f_value (n, wk, sd, bt, lt, lo, rk, ad, vl, bg, cm, sp, gd, rf, ct, rd, sm, js, sn, wl) k = (1, 0, (n, wk, sd, bt, lt, lo, rk, ad, vl, bg, cm, sp, gd, rf, ct, rd, sm, js, sn, wl))) ∨ (E = "java/lang/IllegalStateException" ∧ f_value (n, wk, sd, bt, lt, lo, rk, ad, vl, bg, cm, sp, gd, rf, ct, rd, sm, js, sn, wl) k = (2, 0, (n, wk, sd, bt, lt, lo, rk, ad, vl, bg, cm, sp, gd, rf, ct, rd, sm, js, sn, wl)))) ∧ BX dC dI c0 a (va_A (wX c0 a (n, wk, sd, bt, lt, lo, rk, ad, vl, bg, cm, sp, gd, rf, ct, rd, sm, js, sn, wl)) sz) (n, wk, sd, bt, lt, lo, rk, ad, vl, bg, cm, sp, gd, rf, ct, rd, sm, js, sn, wl) t) (va_A (wX c0 a (n, wk, sd, bt, lt, lo, rk, ad, vl, bg, cm, sp, gd, rf, ct, rd, sm, js, sn, wl)) sz)) 2 12 (va_A (wX c0 a (n, wk, sd, bt, lt, lo, rk, ad, vl, bg, cm, sp, gd, rf, ct, rd, sm, js, sn, wl)) sz) := by
  refine vx_ofW (cc := cX0_value) (maxL := 2) (ret := (some .int)) (by decide) rfl ?_
  intro p e s m args below meth c s₁ B hml hne hv
  obtain ⟨rfl, hsz, hP, hK, hD0, hE⟩ := hv
  have hx := B.exec
  have hb := B.bytes
  have hr := B.returns
  have hown : s.vm.findClass RX0 = some m.cls := findClass_of_methodNamed B.named
  have hlocks := B.notSynchronized
  subst hsz
  have hD := hD0.self (sz := s.heap.size)
  generalize hAe : va_A (wX c0 a (n, wk, sd, bt, lt, lo, rk, ad, vl, bg, cm, sp, gd, rf, ct, rd, sm, js, sn, wl)) s.heap.size = A at hD hE ⊢
  have hts := hE.ts (args := ([.ref (a 0), .int k] : List Value).toArray)
  have hA : ∀ q : Nat, s.heap.size ≤ q → A q := fun q h => by rw [← hAe]; exact Or.inr h
  have hS : va_S A s.heap s.heap [] := va_S.rf
  have hP : va_P (dC, dI) vwCl (wX c0 a (n, wk, sd, bt, lt, lo, rk, ad, vl, bg, cm, sp, gd, rf, ct, rd, sm, js, sn, wl)) s.heap := hP
  have hl := lv_entry ([.ref (a 0), .int k]) (n := 2) (Nat.le_of_ble_eq_true rfl)
  rw [lg_entry_eq]
  generalize (lg_sl ([.ref (a 0), .int k]) ++ List.replicate (2 - (lg_sl ([.ref (a 0), .int k])).length) Slot.unset).toArray = ls at hl ⊢
  have hl : lv_has ls 2 [(0, .ref (a 0)), (1, .int k)] := hl
  refine lv_aload_n hx hb dX0_value_0 rfl (lv_at hl 0 rfl) ?_
  refine lv_iload_n hx hb dX0_value_1 rfl (lv_at hl 1 rfl) ?_
  have hFc := fre hD hS hA
  refine vx_callv (vx_runV (As := [.int k]) (rest := []) ⟨hx, hb, hml, hown, hts⟩ (c_X0_needShare l hl9 dC dI c0 a _ n wk sd bt lt lo rk ad vl bg cm sp gd rf ct rd sm js sn wl k) (cwV 1 hts gX0_value_X0_needShare rfl rfl rfl (by decide +kernel) ⟨(Nat.le_of_ble_eq_true rfl), (Nat.le_of_ble_eq_true rfl)⟩) ⟨PX_blind, va_recv hK hP (ci := 0) (q0 := 0) rfl rfl, PX_give hP hK hD hE hS hFc⟩ rfl rfl hl.1 rfl (lv_room (Nat.le_of_ble_eq_true rfl)) dX0_value_2 ⟨by decide, by decide⟩) hS (fun q _ h => hFc q h) hFc (fun q _ h => hFc q h) (fun E ce q9 u t H1 locs ht hvm hw hB hz1 hk1 hS hce hcv hcl => ?_) (fun u t H1 locs ht hvm hw hB hz1 hk1 hS => ?_)
  · skip
    obtain ⟨hEE, hB⟩ := hB
    obtain ⟨hP, hD⟩ := PX_take ht hFc hB
    exact vx_out (E := E) (fun x hx => (hne x hx).elim) hlocks hce hcv hcl (fun t ht ha => ⟨(), trivial, ⟨Or.inl ⟨hEE.1, (by rcases hEE.2 with h9 | h9 <;> simp only [f_value, h9, ↓reduceIte, ite_self])⟩, by rw [ht]; exact hP, va_K.moved ha hK, hD⟩, hS.F ht⟩) hS.2.2 (by decide) (by decide)
  · skip
    obtain ⟨⟨hq1, hq2⟩, rfl⟩ := hw
    obtain ⟨hP, hD⟩ := PX_take ht hFc hB
    generalize H1 = H at hP hS ⊢
    have hP : va_P (dC, dI) vwCl (wX c0 a (n, wk, sd, bt, lt, lo, rk, ad, vl, bg, cm, sp, gd, rf, ct, rd, sm, js, sn, wl)) H := hP
    have hD : va_D A (wX c0 a (n, wk, sd, bt, lt, lo, rk, ad, vl, bg, cm, sp, gd, rf, ct, rd, sm, js, sn, wl)) := hD
    have hk : vp_in k n := in_of hq1 hq2 (by omega)
    refine lv_aload_n hx hb dX0_value_5 rfl (lv_at hl 0 rfl) ?_
    have hFc := fre hD hS hA
    refine vx_callv (vx_runV (As := []) (rest := []) ⟨hx, hb, hml, hown, hts⟩ (c_X0_needRun l hl9 dC dI c0 a _ n wk sd bt lt lo rk ad vl bg cm sp gd rf ct rd sm js sn wl ) (cwV 0 hts gX0_value_X0_needRun rfl rfl rfl (by decide +kernel) ⟨(Nat.le_of_ble_eq_true rfl), (Nat.le_of_ble_eq_true rfl)⟩) ⟨PX_blind, va_recv hK hP (ci := 0) (q0 := 0) rfl rfl, PX_give hP hK hD hE hS hFc⟩ rfl rfl hl.1 rfl (lv_room (Nat.le_of_ble_eq_true rfl)) dX0_value_6 ⟨by decide, by decide⟩) hS (fun q _ h => hFc q h) hFc (fun q _ h => hFc q h) (fun E ce q9 u t H1 locs ht hvm hw hB hz1 hk1 hS hce hcv hcl => ?_) (fun u t H1 locs ht hvm hw hB hz1 hk1 hS => ?_)
    · skip
      obtain ⟨hEE, hB⟩ := hB
      obtain ⟨hP, hD⟩ := PX_take ht hFc hB
      exact vx_out (E := E) (fun x hx => (hne x hx).elim) hlocks hce hcv hcl (fun t ht ha => ⟨(), trivial, ⟨Or.inr ⟨hEE.1, (by simp only [f_value, hq1, hq2, hEE.2, ↓reduceIte])⟩, by rw [ht]; exact hP, va_K.moved ha hK, hD⟩, hS.F ht⟩) hS.2.2 (by decide) (by decide)
    · skip
      obtain ⟨hr1, rfl⟩ := hw
      obtain ⟨hP, hD⟩ := PX_take ht hFc hB
      generalize H1 = H at hP hS ⊢
      have hP : va_P (dC, dI) vwCl (wX c0 a (n, wk, sd, bt, lt, lo, rk, ad, vl, bg, cm, sp, gd, rf, ct, rd, sm, js, sn, wl)) H := hP
      have hD : va_D A (wX c0 a (n, wk, sd, bt, lt, lo, rk, ad, vl, bg, cm, sp, gd, rf, ct, rd, sm, js, sn, wl)) := hD
      refine lv_aload_n hx hb dX0_value_9 rfl (lv_at hl 0 rfl) ?_
      refine va_get (D := (dC, dI)) (ci := 0) (v := .ref (a 3)) (C := RX0) (T := TX0) (N := 6) hx hb hts inX0 hown hK hP 0 rfl rfl 2 (by decide) (hE.t m_145 rfl) (fun _ h9 => h9) rfl dX0_value_10 ?_
      refine va_getN (D := (dC, dI)) (ci := 3) (v := .ref (a 11)) (C := RX3) (T := TX3) (N := 8) hx hb hts inX3 hown hK hP 3 rfl rfl 0 (by decide) (hE.t m_112 rfl) (fun _ h9 => h9) rfl dX0_value_13 ?_
      refine lv_iload_n hx hb dX0_value_16 rfl (lv_at hl 1 rfl) ?_
      refine va_iald hx hb hK hP 11 0 rfl rfl hk dX0_value_17 ?_
      refine vx_ret ?_
      exact W.iret (v := vl k.toNatClampNeg) hx hb hr (fun t ht hW => ⟨⟨vl k.toNatClampNeg, (n, wk, sd, bt, lt, lo, rk, ad, vl, bg, cm, sp, gd, rf, ct, rd, sm, js, sn, wl), rfl, (by simp only [f_value, hq1, hq2, hr1, ↓reduceIte]), by rw [ht]; exact hP, va_K.moved hW.alike hK, hD⟩, hS.F ht⟩) hS.2.2 dX0_value_18
set_option maxHeartbeats 4000000 in
set_option maxRecDepth 100000 in
/-- chain -/
theorem c_X0_chain (l : Launch) (hl9 : l.stackTraces = false) (dC : Nat → ClassId) (dI : Nat → Nat → Nat) (c0 : ClassId) (a : Nat → Nat) (sz : Nat) (n : Nat) (wk sd bt lt lo rk ad vl bg cm : Nat → Int32) (sp gd rf : Int32) (ct : Nat) (rd : Int32) (sm : Int64) (js sn wl : Int32) (k : Int32) (w : Int32) (hn : n ≤ 40) : vx_Met l yX0_chain wsX0_chain ({ frames := 7, cells := 2, slots := 12, locals := 103 }) (va_Pc [.ref (a 0), .int k, .int w] (PX dC dI c0 a (n, wk, sd, bt, lt, lo, rk, ad, vl, bg, cm, sp, gd, rf, ct, rd, sm, js, sn, wl) sz)) (va_Ql (fun (r : Int64) (u : xS) => f_chain (n, wk, sd, bt, lt, lo, rk, ad, vl, bg, cm, sp, gd, rf, ct, rd, sm, js, sn, wl) k w = (0, r, u)) (BX dC dI c0 a (va_A (wX c0 a (n, wk, sd, bt, lt, lo, rk, ad, vl, bg, cm, sp, gd, rf, ct, rd, sm, js, sn, wl)) sz)) (va_A (wX c0 a (n, wk, sd, bt, lt, lo, rk, ad, vl, bg, cm, sp, gd, rf, ct, rd, sm, js, sn, wl)) sz)) (vx_X (fun _ : Unit => True) (fun (E : String) (_ : Unit) t => ((E = "java/lang/IndexOutOfBoundsException" ∧ f_chain (n, wk, sd, bt, lt, lo, rk, ad, vl, bg, cm, sp, gd, rf, ct, rd, sm, js, sn, wl) k w = (1, 0, (n, wk, sd, bt, lt, lo, rk, ad, vl, bg, cm, sp, gd, rf, ct, rd, sm, js, sn, wl)))) ∧ BX dC dI c0 a (va_A (wX c0 a (n, wk, sd, bt, lt, lo, rk, ad, vl, bg, cm, sp, gd, rf, ct, rd, sm, js, sn, wl)) sz) (n, wk, sd, bt, lt, lo, rk, ad, vl, bg, cm, sp, gd, rf, ct, rd, sm, js, sn, wl) t) (va_A (wX c0 a (n, wk, sd, bt, lt, lo, rk, ad, vl, bg, cm, sp, gd, rf, ct, rd, sm, js, sn, wl)) sz)) 2 12 (va_A (wX c0 a (n, wk, sd, bt, lt, lo, rk, ad, vl, bg, cm, sp, gd, rf, ct, rd, sm, js, sn, wl)) sz) := by
  refine vx_ofW (cc := cX0_chain) (maxL := 3) (ret := (some .long)) (by decide) rfl ?_
  intro p e s m args below meth c s₁ B hml hne hv
  obtain ⟨rfl, hsz, hP, hK, hD0, hE⟩ := hv
  have hx := B.exec
  have hb := B.bytes
  have hr := B.returns
  have hown : s.vm.findClass RX0 = some m.cls := findClass_of_methodNamed B.named
  have hlocks := B.notSynchronized
  subst hsz
  have hD := hD0.self (sz := s.heap.size)
  generalize hAe : va_A (wX c0 a (n, wk, sd, bt, lt, lo, rk, ad, vl, bg, cm, sp, gd, rf, ct, rd, sm, js, sn, wl)) s.heap.size = A at hD hE ⊢
  have hts := hE.ts (args := ([.ref (a 0), .int k, .int w] : List Value).toArray)
  have hA : ∀ q : Nat, s.heap.size ≤ q → A q := fun q h => by rw [← hAe]; exact Or.inr h
  have hS : va_S A s.heap s.heap [] := va_S.rf
  have hP : va_P (dC, dI) vwCl (wX c0 a (n, wk, sd, bt, lt, lo, rk, ad, vl, bg, cm, sp, gd, rf, ct, rd, sm, js, sn, wl)) s.heap := hP
  have hl := lv_entry ([.ref (a 0), .int k, .int w]) (n := 3) (Nat.le_of_ble_eq_true rfl)
  rw [lg_entry_eq]
  generalize (lg_sl ([.ref (a 0), .int k, .int w]) ++ List.replicate (3 - (lg_sl ([.ref (a 0), .int k, .int w])).length) Slot.unset).toArray = ls at hl ⊢
  have hl : lv_has ls 3 [(0, .ref (a 0)), (1, .int k), (2, .int w)] := hl
  refine lv_aload_n hx hb dX0_chain_0 rfl (lv_at hl 0 rfl) ?_
  refine lv_iload_n hx hb dX0_chain_1 rfl (lv_at hl 1 rfl) ?_
  have hFc := fre hD hS hA
  refine vx_callv (vx_runV (As := [.int k]) (rest := []) ⟨hx, hb, hml, hown, hts⟩ (c_X0_needShare l hl9 dC dI c0 a _ n wk sd bt lt lo rk ad vl bg cm sp gd rf ct rd sm js sn wl k) (cwV 1 hts gX0_chain_X0_needShare rfl rfl rfl (by decide +kernel) ⟨(Nat.le_of_ble_eq_true rfl), (Nat.le_of_ble_eq_true rfl)⟩) ⟨PX_blind, va_recv hK hP (ci := 0) (q0 := 0) rfl rfl, PX_give hP hK hD hE hS hFc⟩ rfl rfl hl.1 rfl (lv_room (Nat.le_of_ble_eq_true rfl)) dX0_chain_2 ⟨by decide, by decide⟩) hS (fun q _ h => hFc q h) hFc (fun q _ h => hFc q h) (fun E ce q9 u t H1 locs ht hvm hw hB hz1 hk1 hS hce hcv hcl => ?_) (fun u t H1 locs ht hvm hw hB hz1 hk1 hS => ?_)
  · skip
    obtain ⟨hEE, hB⟩ := hB
    obtain ⟨hP, hD⟩ := PX_take ht hFc hB
    exact vx_out (E := E) (fun x hx => (hne x hx).elim) hlocks hce hcv hcl (fun t ht ha => ⟨(), trivial, ⟨⟨hEE.1, (by rcases hEE.2 with h9 | h9 <;> simp only [f_chain, h9, ↓reduceIte, ite_self])⟩, by rw [ht]; exact hP, va_K.moved ha hK, hD⟩, hS.F ht⟩) hS.2.2 (by decide) (by decide)
  · skip
    obtain ⟨⟨hq1, hq2⟩, rfl⟩ := hw
    obtain ⟨hP, hD⟩ := PX_take ht hFc hB
    generalize H1 = H at hP hS ⊢
    have hP : va_P (dC, dI) vwCl (wX c0 a (n, wk, sd, bt, lt, lo, rk, ad, vl, bg, cm, sp, gd, rf, ct, rd, sm, js, sn, wl)) H := hP
    have hD : va_D A (wX c0 a (n, wk, sd, bt, lt, lo, rk, ad, vl, bg, cm, sp, gd, rf, ct, rd, sm, js, sn, wl)) := hD
    have hk : vp_in k n := in_of hq1 hq2 (by omega)
    refine lv_iload_n hx hb dX0_chain_5 rfl (lv_at hl 2 rfl) ?_
    refine lv_if_lt (tgt := 22) hx hb dX0_chain_6 (by decide) (fun c_6 => ?_) (fun c_6 => ?_)
    · skip
      obtain ⟨sa, hsa⟩ := hE.st (RX0, 130, "there is no such step") (by decide)
      exact vx_throwS (own := RX0) (cls := "java/lang/IndexOutOfBoundsException") (text := "there is no such step") (names := ["java/lang/RuntimeException", "java/lang/Exception"]) (ik := 80) (is := 130) (ic := 84) hx hb hl9 hown (by decide +kernel) (by decide +kernel) (hE.t m_178 rfl) (hE.t m_31 rfl) hsa (vx_hat (L := (vx_atS RX0 84 "java/lang/IndexOutOfBoundsException" ["java/lang/RuntimeException", "java/lang/Exception"])) (B := [.castable "java/lang/IndexOutOfBoundsException" "java/lang/IndexOutOfBoundsException", .declares ⟨"java/lang/RuntimeException", "<init>", "(Ljava/lang/String;)V"⟩, .declares ⟨"java/lang/Exception", "<init>", "(Ljava/lang/String;)V"⟩, .declares ⟨"java/lang/Throwable", "<init>", "(Ljava/lang/String;)V"⟩]) (fun w hw => hts w (List.mem_filter.mpr ⟨at_X0_IndexOutOfBoundsException w hw, (List.mem_filter.mp hw).2⟩)) ab_X0_IndexOutOfBoundsException (vx_c (hE.t m_180 rfl) (vx_c (hE.t m_182 rfl) (vx_c (hE.t m_184 rfl) (vx_c (hE.t m_186 rfl) vx_n))))) gd_X0_IndexOutOfBoundsException hE.zu hE.zn hS (by rw [hml]; exact hl.1) dX0_chain_22 dX0_chain_25 dX0_chain_26 dX0_chain_28 dX0_chain_31 (fun x hx => (hne x hx).elim) (by decide) (by decide) (by decide) (by decide) hlocks (fun t hvm h1 h2 => ⟨(), trivial, ⟨⟨rfl, (by simp only [f_chain, c_6, hq1, hq2, ↓reduceIte])⟩, (thr_B hP hK hD hS hvm h1 h2).1⟩, (thr_B hP hK hD hS hvm h1 h2).2⟩) hS.2.2 (by decide) (by decide)
    · skip
      refine lv_iload_n hx hb dX0_chain_9 rfl (lv_at hl 2 rfl) ?_
      refine lv_aload_n hx hb dX0_chain_10 rfl (lv_at hl 0 rfl) ?_
      refine va_get (D := (dC, dI)) (ci := 0) (v := .ref (a 1)) (C := RX0) (T := TX0) (N := 6) hx hb hts inX0 hown hK hP 0 rfl rfl 0 (by decide) (hE.t m_143 rfl) (fun _ h9 => h9) rfl dX0_chain_11 ?_
      refine va_getN (D := (dC, dI)) (ci := 1) (v := .ref (a 4)) (C := RX1) (T := TX1) (N := 6) hx hb hts inX1 hown hK hP 1 rfl rfl 1 (by decide) (hE.t m_61 rfl) (fun _ h9 => h9) rfl dX0_chain_14 ?_
      refine lv_iload_n hx hb dX0_chain_17 rfl (lv_at hl 1 rfl) ?_
      refine va_iald hx hb hK hP 4 0 rfl rfl hk dX0_chain_18 ?_
      refine lv_icmp_le (tgt := 32) hx hb dX0_chain_19 (by decide) (fun c_19 => ?_) (fun c_19 => ?_)
      · skip
        refine lv_aload_n hx hb dX0_chain_32 rfl (lv_at hl 0 rfl) ?_
        refine va_get (D := (dC, dI)) (ci := 0) (v := .ref (a 1)) (C := RX0) (T := TX0) (N := 6) hx hb hts inX0 hown hK hP 0 rfl rfl 0 (by decide) (hE.t m_143 rfl) (fun _ h9 => h9) rfl dX0_chain_33 ?_
        refine lv_iload_n hx hb dX0_chain_36 rfl (lv_at hl 1 rfl) ?_
        refine lv_iload_n hx hb dX0_chain_37 rfl (lv_at hl 2 rfl) ?_
        have hFc := fre hD hS hA
        refine va_calll (va_runVN (As := [.int k, .int w]) (rest := []) ⟨hx, hb, hml, hown, hts⟩ (c_X1_behind l dC dI c0 a _ n wk sd bt lt lo rk ad vl bg cm sp gd rf ct rd sm js sn wl k w hk) ⟨va_cnB (host := "DrawShares") 2 hts gX0_chain_X1_behind rfl rfl rfl (hE.t0 m_389 rfl) (hE.t m_23 rfl) (by decide +kernel) ⟨(Nat.le_of_ble_eq_true rfl), (Nat.le_of_ble_eq_true rfl)⟩, hE.t m_330 rfl, hE.t m_6 rfl⟩ ⟨PX_blind, va_recv hK hP (ci := 1) (q0 := 1) rfl rfl, PX_give hP hK hD hE hS hFc⟩ rfl rfl hl.1 rfl (lv_room (Nat.le_of_ble_eq_true rfl)) dX0_chain_38 ⟨by decide, by decide⟩) hS (fun q _ h => hFc q h) hFc (fun r_38 u t H1 locs ht hvm hw hB hz1 hk1 hS => ?_)
        obtain ⟨rfl, rfl⟩ := hw
        obtain ⟨hP, hD⟩ := PX_take ht hFc hB
        generalize H1 = H at hP hS ⊢
        have hP : va_P (dC, dI) vwCl (wX c0 a (n, wk, sd, bt, lt, lo, rk, ad, vl, bg, cm, sp, gd, rf, ct, rd, sm, js, sn, wl)) H := hP
        have hD : va_D A (wX c0 a (n, wk, sd, bt, lt, lo, rk, ad, vl, bg, cm, sp, gd, rf, ct, rd, sm, js, sn, wl)) := hD
        refine vx_ret ?_
        refine W.widen (k := 2) (n := 12) (by omega) (by omega) ?_
        exact W.lret (v := chx (sd k.toNatClampNeg) k w.toNatClampNeg) hx hb hr (fun t ht hW => ⟨⟨chx (sd k.toNatClampNeg) k w.toNatClampNeg, (n, wk, sd, bt, lt, lo, rk, ad, vl, bg, cm, sp, gd, rf, ct, rd, sm, js, sn, wl), rfl, (by simp only [f_chain, c_6, c_19, hq1, hq2, ↓reduceIte]), by rw [ht]; exact hP, va_K.moved hW.alike hK, hD⟩, hS.F ht⟩) hS.2.2 dX0_chain_41
      · skip
        obtain ⟨sa, hsa⟩ := hE.st (RX0, 130, "there is no such step") (by decide)
        exact vx_throwS (own := RX0) (cls := "java/lang/IndexOutOfBoundsException") (text := "there is no such step") (names := ["java/lang/RuntimeException", "java/lang/Exception"]) (ik := 80) (is := 130) (ic := 84) hx hb hl9 hown (by decide +kernel) (by decide +kernel) (hE.t m_178 rfl) (hE.t m_31 rfl) hsa (vx_hat (L := (vx_atS RX0 84 "java/lang/IndexOutOfBoundsException" ["java/lang/RuntimeException", "java/lang/Exception"])) (B := [.castable "java/lang/IndexOutOfBoundsException" "java/lang/IndexOutOfBoundsException", .declares ⟨"java/lang/RuntimeException", "<init>", "(Ljava/lang/String;)V"⟩, .declares ⟨"java/lang/Exception", "<init>", "(Ljava/lang/String;)V"⟩, .declares ⟨"java/lang/Throwable", "<init>", "(Ljava/lang/String;)V"⟩]) (fun w hw => hts w (List.mem_filter.mpr ⟨at_X0_IndexOutOfBoundsException w hw, (List.mem_filter.mp hw).2⟩)) ab_X0_IndexOutOfBoundsException (vx_c (hE.t m_180 rfl) (vx_c (hE.t m_182 rfl) (vx_c (hE.t m_184 rfl) (vx_c (hE.t m_186 rfl) vx_n))))) gd_X0_IndexOutOfBoundsException hE.zu hE.zn hS (by rw [hml]; exact hl.1) dX0_chain_22 dX0_chain_25 dX0_chain_26 dX0_chain_28 dX0_chain_31 (fun x hx => (hne x hx).elim) (by decide) (by decide) (by decide) (by decide) hlocks (fun t hvm h1 h2 => ⟨(), trivial, ⟨⟨rfl, (by simp only [f_chain, c_6, c_19, hq1, hq2, ↓reduceIte])⟩, (thr_B hP hK hD hS hvm h1 h2).1⟩, (thr_B hP hK hD hS hvm h1 h2).2⟩) hS.2.2 (by decide) (by decide)
set_option maxHeartbeats 4000000 in
set_option maxRecDepth 100000 in
/-- came -/
theorem c_X0_came (l : Launch) (hl9 : l.stackTraces = false) (dC : Nat → ClassId) (dI : Nat → Nat → Nat) (c0 : ClassId) (a : Nat → Nat) (sz : Nat) (n : Nat) (wk sd bt lt lo rk ad vl bg cm : Nat → Int32) (sp gd rf : Int32) (ct : Nat) (rd : Int32) (sm : Int64) (js sn wl : Int32) (k : Int32) (hn : n ≤ 40) (hct : ct ≤ 24) : vx_Met l yX0_came wsX0_came ({ frames := 7, cells := 2, slots := 12, locals := 103 }) (va_Pc [.ref (a 0), .int k] (PX dC dI c0 a (n, wk, sd, bt, lt, lo, rk, ad, vl, bg, cm, sp, gd, rf, ct, rd, sm, js, sn, wl) sz)) (va_Qi (fun (r : Int32) (u : xS) => f_came (n, wk, sd, bt, lt, lo, rk, ad, vl, bg, cm, sp, gd, rf, ct, rd, sm, js, sn, wl) k = (0, r.toInt64, u)) (BX dC dI c0 a (va_A (wX c0 a (n, wk, sd, bt, lt, lo, rk, ad, vl, bg, cm, sp, gd, rf, ct, rd, sm, js, sn, wl)) sz)) (va_A (wX c0 a (n, wk, sd, bt, lt, lo, rk, ad, vl, bg, cm, sp, gd, rf, ct, rd, sm, js, sn, wl)) sz)) (vx_X (fun _ : Unit => True) (fun (E : String) (_ : Unit) t => ((E = "java/lang/IndexOutOfBoundsException" ∧ f_came (n, wk, sd, bt, lt, lo, rk, ad, vl, bg, cm, sp, gd, rf, ct, rd, sm, js, sn, wl) k = (1, 0, (n, wk, sd, bt, lt, lo, rk, ad, vl, bg, cm, sp, gd, rf, ct, rd, sm, js, sn, wl))) ∨ (E = "java/lang/IllegalStateException" ∧ f_came (n, wk, sd, bt, lt, lo, rk, ad, vl, bg, cm, sp, gd, rf, ct, rd, sm, js, sn, wl) k = (2, 0, (n, wk, sd, bt, lt, lo, rk, ad, vl, bg, cm, sp, gd, rf, ct, rd, sm, js, sn, wl)))) ∧ BX dC dI c0 a (va_A (wX c0 a (n, wk, sd, bt, lt, lo, rk, ad, vl, bg, cm, sp, gd, rf, ct, rd, sm, js, sn, wl)) sz) (n, wk, sd, bt, lt, lo, rk, ad, vl, bg, cm, sp, gd, rf, ct, rd, sm, js, sn, wl) t) (va_A (wX c0 a (n, wk, sd, bt, lt, lo, rk, ad, vl, bg, cm, sp, gd, rf, ct, rd, sm, js, sn, wl)) sz)) 2 12 (va_A (wX c0 a (n, wk, sd, bt, lt, lo, rk, ad, vl, bg, cm, sp, gd, rf, ct, rd, sm, js, sn, wl)) sz) := by
  refine vx_ofW (cc := cX0_came) (maxL := 2) (ret := (some .int)) (by decide) rfl ?_
  intro p e s m args below meth c s₁ B hml hne hv
  obtain ⟨rfl, hsz, hP, hK, hD0, hE⟩ := hv
  have hx := B.exec
  have hb := B.bytes
  have hr := B.returns
  have hown : s.vm.findClass RX0 = some m.cls := findClass_of_methodNamed B.named
  have hlocks := B.notSynchronized
  subst hsz
  have hD := hD0.self (sz := s.heap.size)
  generalize hAe : va_A (wX c0 a (n, wk, sd, bt, lt, lo, rk, ad, vl, bg, cm, sp, gd, rf, ct, rd, sm, js, sn, wl)) s.heap.size = A at hD hE ⊢
  have hts := hE.ts (args := ([.ref (a 0), .int k] : List Value).toArray)
  have hA : ∀ q : Nat, s.heap.size ≤ q → A q := fun q h => by rw [← hAe]; exact Or.inr h
  have hS : va_S A s.heap s.heap [] := va_S.rf
  have hP : va_P (dC, dI) vwCl (wX c0 a (n, wk, sd, bt, lt, lo, rk, ad, vl, bg, cm, sp, gd, rf, ct, rd, sm, js, sn, wl)) s.heap := hP
  have hl := lv_entry ([.ref (a 0), .int k]) (n := 2) (Nat.le_of_ble_eq_true rfl)
  rw [lg_entry_eq]
  generalize (lg_sl ([.ref (a 0), .int k]) ++ List.replicate (2 - (lg_sl ([.ref (a 0), .int k])).length) Slot.unset).toArray = ls at hl ⊢
  have hl : lv_has ls 2 [(0, .ref (a 0)), (1, .int k)] := hl
  refine lv_iload_n hx hb dX0_came_0 rfl (lv_at hl 1 rfl) ?_
  refine lv_if_lt (tgt := 15) hx hb dX0_came_1 (by decide) (fun c_1 => ?_) (fun c_1 => ?_)
  · skip
    obtain ⟨sa, hsa⟩ := hE.st (RX0, 136, "there is no such act") (by decide)
    exact vx_throwS (own := RX0) (cls := "java/lang/IndexOutOfBoundsException") (text := "there is no such act") (names := ["java/lang/RuntimeException", "java/lang/Exception"]) (ik := 80) (is := 136) (ic := 84) hx hb hl9 hown (by decide +kernel) (by decide +kernel) (hE.t m_178 rfl) (hE.t m_31 rfl) hsa (vx_hat (L := (vx_atS RX0 84 "java/lang/IndexOutOfBoundsException" ["java/lang/RuntimeException", "java/lang/Exception"])) (B := [.castable "java/lang/IndexOutOfBoundsException" "java/lang/IndexOutOfBoundsException", .declares ⟨"java/lang/RuntimeException", "<init>", "(Ljava/lang/String;)V"⟩, .declares ⟨"java/lang/Exception", "<init>", "(Ljava/lang/String;)V"⟩, .declares ⟨"java/lang/Throwable", "<init>", "(Ljava/lang/String;)V"⟩]) (fun w hw => hts w (List.mem_filter.mpr ⟨at_X0_IndexOutOfBoundsException w hw, (List.mem_filter.mp hw).2⟩)) ab_X0_IndexOutOfBoundsException (vx_c (hE.t m_180 rfl) (vx_c (hE.t m_182 rfl) (vx_c (hE.t m_184 rfl) (vx_c (hE.t m_186 rfl) vx_n))))) gd_X0_IndexOutOfBoundsException hE.zu hE.zn hS (by rw [hml]; exact hl.1) dX0_came_15 dX0_came_18 dX0_came_19 dX0_came_21 dX0_came_24 (fun x hx => (hne x hx).elim) (by decide) (by decide) (by decide) (by decide) hlocks (fun t hvm h1 h2 => ⟨(), trivial, ⟨Or.inl ⟨rfl, (by simp only [f_came, c_1, ↓reduceIte])⟩, (thr_B hP hK hD hS hvm h1 h2).1⟩, (thr_B hP hK hD hS hvm h1 h2).2⟩) hS.2.2 (by decide) (by decide)
  · skip
    refine lv_iload_n hx hb dX0_came_4 rfl (lv_at hl 1 rfl) ?_
    refine lv_aload_n hx hb dX0_came_5 rfl (lv_at hl 0 rfl) ?_
    refine va_get (D := (dC, dI)) (ci := 0) (v := .ref (a 2)) (C := RX0) (T := TX0) (N := 6) hx hb hts inX0 hown hK hP 0 rfl rfl 1 (by decide) (hE.t m_144 rfl) (fun _ h9 => h9) rfl dX0_came_6 ?_
    refine va_getN (D := (dC, dI)) (ci := 2) (v := .int (nI ct)) (C := RX2) (T := TX2) (N := 3) hx hb hts inX2 hown hK hP 2 rfl rfl 2 (by decide) (hE.t m_97 rfl) (fun _ h9 => h9) rfl dX0_came_9 ?_
    refine lv_icmp_lt (tgt := 25) hx hb dX0_came_12 (by decide) (fun c_12 => ?_) (fun c_12 => ?_)
    · skip
      have hk : vp_in k 24 := in_le (in_of c_1 c_12 (by omega)) hct
      refine lv_aload_n hx hb dX0_came_25 rfl (lv_at hl 0 rfl) ?_
      have hFc := fre hD hS hA
      refine vx_callv (vx_runV (As := []) (rest := []) ⟨hx, hb, hml, hown, hts⟩ (c_X0_needRun l hl9 dC dI c0 a _ n wk sd bt lt lo rk ad vl bg cm sp gd rf ct rd sm js sn wl ) (cwV 0 hts gX0_came_X0_needRun rfl rfl rfl (by decide +kernel) ⟨(Nat.le_of_ble_eq_true rfl), (Nat.le_of_ble_eq_true rfl)⟩) ⟨PX_blind, va_recv hK hP (ci := 0) (q0 := 0) rfl rfl, PX_give hP hK hD hE hS hFc⟩ rfl rfl hl.1 rfl (lv_room (Nat.le_of_ble_eq_true rfl)) dX0_came_26 ⟨by decide, by decide⟩) hS (fun q _ h => hFc q h) hFc (fun q _ h => hFc q h) (fun E ce q9 u t H1 locs ht hvm hw hB hz1 hk1 hS hce hcv hcl => ?_) (fun u t H1 locs ht hvm hw hB hz1 hk1 hS => ?_)
      · skip
        obtain ⟨hEE, hB⟩ := hB
        obtain ⟨hP, hD⟩ := PX_take ht hFc hB
        exact vx_out (E := E) (fun x hx => (hne x hx).elim) hlocks hce hcv hcl (fun t ht ha => ⟨(), trivial, ⟨Or.inr ⟨hEE.1, (by simp only [f_came, c_1, c_12, hEE.2, ↓reduceIte])⟩, by rw [ht]; exact hP, va_K.moved ha hK, hD⟩, hS.F ht⟩) hS.2.2 (by decide) (by decide)
      · skip
        obtain ⟨hr1, rfl⟩ := hw
        obtain ⟨hP, hD⟩ := PX_take ht hFc hB
        generalize H1 = H at hP hS ⊢
        have hP : va_P (dC, dI) vwCl (wX c0 a (n, wk, sd, bt, lt, lo, rk, ad, vl, bg, cm, sp, gd, rf, ct, rd, sm, js, sn, wl)) H := hP
        have hD : va_D A (wX c0 a (n, wk, sd, bt, lt, lo, rk, ad, vl, bg, cm, sp, gd, rf, ct, rd, sm, js, sn, wl)) := hD
        refine lv_aload_n hx hb dX0_came_29 rfl (lv_at hl 0 rfl) ?_
        refine va_get (D := (dC, dI)) (ci := 0) (v := .ref (a 3)) (C := RX0) (T := TX0) (N := 6) hx hb hts inX0 hown hK hP 0 rfl rfl 2 (by decide) (hE.t m_145 rfl) (fun _ h9 => h9) rfl dX0_came_30 ?_
        refine va_getN (D := (dC, dI)) (ci := 3) (v := .ref (a 13)) (C := RX3) (T := TX3) (N := 8) hx hb hts inX3 hown hK hP 3 rfl rfl 2 (by decide) (hE.t m_116 rfl) (fun _ h9 => h9) rfl dX0_came_33 ?_
        refine lv_iload_n hx hb dX0_came_36 rfl (lv_at hl 1 rfl) ?_
        refine va_iald hx hb hK hP 13 0 rfl rfl hk dX0_came_37 ?_
        refine vx_ret ?_
        refine W.widen (k := 2) (n := 12) (by omega) (by omega) ?_
        exact W.iret (v := cm k.toNatClampNeg) hx hb hr (fun t ht hW => ⟨⟨cm k.toNatClampNeg, (n, wk, sd, bt, lt, lo, rk, ad, vl, bg, cm, sp, gd, rf, ct, rd, sm, js, sn, wl), rfl, (by simp only [f_came, c_1, c_12, hr1, ↓reduceIte]), by rw [ht]; exact hP, va_K.moved hW.alike hK, hD⟩, hS.F ht⟩) hS.2.2 dX0_came_38
    · skip
      obtain ⟨sa, hsa⟩ := hE.st (RX0, 136, "there is no such act") (by decide)
      exact vx_throwS (own := RX0) (cls := "java/lang/IndexOutOfBoundsException") (text := "there is no such act") (names := ["java/lang/RuntimeException", "java/lang/Exception"]) (ik := 80) (is := 136) (ic := 84) hx hb hl9 hown (by decide +kernel) (by decide +kernel) (hE.t m_178 rfl) (hE.t m_31 rfl) hsa (vx_hat (L := (vx_atS RX0 84 "java/lang/IndexOutOfBoundsException" ["java/lang/RuntimeException", "java/lang/Exception"])) (B := [.castable "java/lang/IndexOutOfBoundsException" "java/lang/IndexOutOfBoundsException", .declares ⟨"java/lang/RuntimeException", "<init>", "(Ljava/lang/String;)V"⟩, .declares ⟨"java/lang/Exception", "<init>", "(Ljava/lang/String;)V"⟩, .declares ⟨"java/lang/Throwable", "<init>", "(Ljava/lang/String;)V"⟩]) (fun w hw => hts w (List.mem_filter.mpr ⟨at_X0_IndexOutOfBoundsException w hw, (List.mem_filter.mp hw).2⟩)) ab_X0_IndexOutOfBoundsException (vx_c (hE.t m_180 rfl) (vx_c (hE.t m_182 rfl) (vx_c (hE.t m_184 rfl) (vx_c (hE.t m_186 rfl) vx_n))))) gd_X0_IndexOutOfBoundsException hE.zu hE.zn hS (by rw [hml]; exact hl.1) dX0_came_15 dX0_came_18 dX0_came_19 dX0_came_21 dX0_came_24 (fun x hx => (hne x hx).elim) (by decide) (by decide) (by decide) (by decide) hlocks (fun t hvm h1 h2 => ⟨(), trivial, ⟨Or.inl ⟨rfl, (by simp only [f_came, c_1, c_12, ↓reduceIte])⟩, (thr_B hP hK hD hS hvm h1 h2).1⟩, (thr_B hP hK hD hS hvm h1 h2).2⟩) hS.2.2 (by decide) (by decide)
set_option maxHeartbeats 4000000 in
set_option maxRecDepth 100000 in
/-- begun -/
theorem c_X0_begun (l : Launch) (hl9 : l.stackTraces = false) (dC : Nat → ClassId) (dI : Nat → Nat → Nat) (c0 : ClassId) (a : Nat → Nat) (sz : Nat) (n : Nat) (wk sd bt lt lo rk ad vl bg cm : Nat → Int32) (sp gd rf : Int32) (ct : Nat) (rd : Int32) (sm : Int64) (js sn wl : Int32) (k : Int32) (hn : n ≤ 40) : vx_Met l yX0_begun wsX0_begun ({ frames := 7, cells := 2, slots := 12, locals := 103 }) (va_Pc [.ref (a 0), .int k] (PX dC dI c0 a (n, wk, sd, bt, lt, lo, rk, ad, vl, bg, cm, sp, gd, rf, ct, rd, sm, js, sn, wl) sz)) (va_Qi (fun (r : Int32) (u : xS) => f_begun (n, wk, sd, bt, lt, lo, rk, ad, vl, bg, cm, sp, gd, rf, ct, rd, sm, js, sn, wl) k = (0, r.toInt64, u)) (BX dC dI c0 a (va_A (wX c0 a (n, wk, sd, bt, lt, lo, rk, ad, vl, bg, cm, sp, gd, rf, ct, rd, sm, js, sn, wl)) sz)) (va_A (wX c0 a (n, wk, sd, bt, lt, lo, rk, ad, vl, bg, cm, sp, gd, rf, ct, rd, sm, js, sn, wl)) sz)) (vx_X (fun _ : Unit => True) (fun (E : String) (_ : Unit) t => ((E = "java/lang/IndexOutOfBoundsException" ∧ f_begun (n, wk, sd, bt, lt, lo, rk, ad, vl, bg, cm, sp, gd, rf, ct, rd, sm, js, sn, wl) k = (1, 0, (n, wk, sd, bt, lt, lo, rk, ad, vl, bg, cm, sp, gd, rf, ct, rd, sm, js, sn, wl))) ∨ (E = "java/lang/IllegalStateException" ∧ f_begun (n, wk, sd, bt, lt, lo, rk, ad, vl, bg, cm, sp, gd, rf, ct, rd, sm, js, sn, wl) k = (2, 0, (n, wk, sd, bt, lt, lo, rk, ad, vl, bg, cm, sp, gd, rf, ct, rd, sm, js, sn, wl)))) ∧ BX dC dI c0 a (va_A (wX c0 a (n, wk, sd, bt, lt, lo, rk, ad, vl, bg, cm, sp, gd, rf, ct, rd, sm, js, sn, wl)) sz) (n, wk, sd, bt, lt, lo, rk, ad, vl, bg, cm, sp, gd, rf, ct, rd, sm, js, sn, wl) t) (va_A (wX c0 a (n, wk, sd, bt, lt, lo, rk, ad, vl, bg, cm, sp, gd, rf, ct, rd, sm, js, sn, wl)) sz)) 2 12 (va_A (wX c0 a (n, wk, sd, bt, lt, lo, rk, ad, vl, bg, cm, sp, gd, rf, ct, rd, sm, js, sn, wl)) sz) := by
  refine vx_ofW (cc := cX0_begun) (maxL := 2) (ret := (some .int)) (by decide) rfl ?_
  intro p e s m args below meth c s₁ B hml hne hv
  obtain ⟨rfl, hsz, hP, hK, hD0, hE⟩ := hv
  have hx := B.exec
  have hb := B.bytes
  have hr := B.returns
  have hown : s.vm.findClass RX0 = some m.cls := findClass_of_methodNamed B.named
  have hlocks := B.notSynchronized
  subst hsz
  have hD := hD0.self (sz := s.heap.size)
  generalize hAe : va_A (wX c0 a (n, wk, sd, bt, lt, lo, rk, ad, vl, bg, cm, sp, gd, rf, ct, rd, sm, js, sn, wl)) s.heap.size = A at hD hE ⊢
  have hts := hE.ts (args := ([.ref (a 0), .int k] : List Value).toArray)
  have hA : ∀ q : Nat, s.heap.size ≤ q → A q := fun q h => by rw [← hAe]; exact Or.inr h
  have hS : va_S A s.heap s.heap [] := va_S.rf
  have hP : va_P (dC, dI) vwCl (wX c0 a (n, wk, sd, bt, lt, lo, rk, ad, vl, bg, cm, sp, gd, rf, ct, rd, sm, js, sn, wl)) s.heap := hP
  have hl := lv_entry ([.ref (a 0), .int k]) (n := 2) (Nat.le_of_ble_eq_true rfl)
  rw [lg_entry_eq]
  generalize (lg_sl ([.ref (a 0), .int k]) ++ List.replicate (2 - (lg_sl ([.ref (a 0), .int k])).length) Slot.unset).toArray = ls at hl ⊢
  have hl : lv_has ls 2 [(0, .ref (a 0)), (1, .int k)] := hl
  refine lv_aload_n hx hb dX0_begun_0 rfl (lv_at hl 0 rfl) ?_
  refine lv_iload_n hx hb dX0_begun_1 rfl (lv_at hl 1 rfl) ?_
  have hFc := fre hD hS hA
  refine vx_callv (vx_runV (As := [.int k]) (rest := []) ⟨hx, hb, hml, hown, hts⟩ (c_X0_needShare l hl9 dC dI c0 a _ n wk sd bt lt lo rk ad vl bg cm sp gd rf ct rd sm js sn wl k) (cwV 1 hts gX0_begun_X0_needShare rfl rfl rfl (by decide +kernel) ⟨(Nat.le_of_ble_eq_true rfl), (Nat.le_of_ble_eq_true rfl)⟩) ⟨PX_blind, va_recv hK hP (ci := 0) (q0 := 0) rfl rfl, PX_give hP hK hD hE hS hFc⟩ rfl rfl hl.1 rfl (lv_room (Nat.le_of_ble_eq_true rfl)) dX0_begun_2 ⟨by decide, by decide⟩) hS (fun q _ h => hFc q h) hFc (fun q _ h => hFc q h) (fun E ce q9 u t H1 locs ht hvm hw hB hz1 hk1 hS hce hcv hcl => ?_) (fun u t H1 locs ht hvm hw hB hz1 hk1 hS => ?_)
  · skip
    obtain ⟨hEE, hB⟩ := hB
    obtain ⟨hP, hD⟩ := PX_take ht hFc hB
    exact vx_out (E := E) (fun x hx => (hne x hx).elim) hlocks hce hcv hcl (fun t ht ha => ⟨(), trivial, ⟨Or.inl ⟨hEE.1, (by rcases hEE.2 with h9 | h9 <;> simp only [f_begun, h9, ↓reduceIte, ite_self])⟩, by rw [ht]; exact hP, va_K.moved ha hK, hD⟩, hS.F ht⟩) hS.2.2 (by decide) (by decide)
  · skip
    obtain ⟨⟨hq1, hq2⟩, rfl⟩ := hw
    obtain ⟨hP, hD⟩ := PX_take ht hFc hB
    generalize H1 = H at hP hS ⊢
    have hP : va_P (dC, dI) vwCl (wX c0 a (n, wk, sd, bt, lt, lo, rk, ad, vl, bg, cm, sp, gd, rf, ct, rd, sm, js, sn, wl)) H := hP
    have hD : va_D A (wX c0 a (n, wk, sd, bt, lt, lo, rk, ad, vl, bg, cm, sp, gd, rf, ct, rd, sm, js, sn, wl)) := hD
    have hk : vp_in k n := in_of hq1 hq2 (by omega)
    refine lv_aload_n hx hb dX0_begun_5 rfl (lv_at hl 0 rfl) ?_
    have hFc := fre hD hS hA
    refine vx_callv (vx_runV (As := []) (rest := []) ⟨hx, hb, hml, hown, hts⟩ (c_X0_needRun l hl9 dC dI c0 a _ n wk sd bt lt lo rk ad vl bg cm sp gd rf ct rd sm js sn wl ) (cwV 0 hts gX0_begun_X0_needRun rfl rfl rfl (by decide +kernel) ⟨(Nat.le_of_ble_eq_true rfl), (Nat.le_of_ble_eq_true rfl)⟩) ⟨PX_blind, va_recv hK hP (ci := 0) (q0 := 0) rfl rfl, PX_give hP hK hD hE hS hFc⟩ rfl rfl hl.1 rfl (lv_room (Nat.le_of_ble_eq_true rfl)) dX0_begun_6 ⟨by decide, by decide⟩) hS (fun q _ h => hFc q h) hFc (fun q _ h => hFc q h) (fun E ce q9 u t H1 locs ht hvm hw hB hz1 hk1 hS hce hcv hcl => ?_) (fun u t H1 locs ht hvm hw hB hz1 hk1 hS => ?_)
    · skip
      obtain ⟨hEE, hB⟩ := hB
      obtain ⟨hP, hD⟩ := PX_take ht hFc hB
      exact vx_out (E := E) (fun x hx => (hne x hx).elim) hlocks hce hcv hcl (fun t ht ha => ⟨(), trivial, ⟨Or.inr ⟨hEE.1, (by simp only [f_begun, hq1, hq2, hEE.2, ↓reduceIte])⟩, by rw [ht]; exact hP, va_K.moved ha hK, hD⟩, hS.F ht⟩) hS.2.2 (by decide) (by decide)
    · skip
      obtain ⟨hr1, rfl⟩ := hw
      obtain ⟨hP, hD⟩ := PX_take ht hFc hB
      generalize H1 = H at hP hS ⊢
      have hP : va_P (dC, dI) vwCl (wX c0 a (n, wk, sd, bt, lt, lo, rk, ad, vl, bg, cm, sp, gd, rf, ct, rd, sm, js, sn, wl)) H := hP
      have hD : va_D A (wX c0 a (n, wk, sd, bt, lt, lo, rk, ad, vl, bg, cm, sp, gd, rf, ct, rd, sm, js, sn, wl)) := hD
      refine lv_aload_n hx hb dX0_begun_9 rfl (lv_at hl 0 rfl) ?_
      refine va_get (D := (dC, dI)) (ci := 0) (v := .ref (a 3)) (C := RX0) (T := TX0) (N := 6) hx hb hts inX0 hown hK hP 0 rfl rfl 2 (by decide) (hE.t m_145 rfl) (fun _ h9 => h9) rfl dX0_begun_10 ?_
      refine va_getN (D := (dC, dI)) (ci := 3) (v := .ref (a 12)) (C := RX3) (T := TX3) (N := 8) hx hb hts inX3 hown hK hP 3 rfl rfl 1 (by decide) (hE.t m_114 rfl) (fun _ h9 => h9) rfl dX0_begun_13 ?_
      refine lv_iload_n hx hb dX0_begun_16 rfl (lv_at hl 1 rfl) ?_
      refine va_iald hx hb hK hP 12 0 rfl rfl hk dX0_begun_17 ?_
      refine vx_ret ?_
      exact W.iret (v := bg k.toNatClampNeg) hx hb hr (fun t ht hW => ⟨⟨bg k.toNatClampNeg, (n, wk, sd, bt, lt, lo, rk, ad, vl, bg, cm, sp, gd, rf, ct, rd, sm, js, sn, wl), rfl, (by simp only [f_begun, hq1, hq2, hr1, ↓reduceIte]), by rw [ht]; exact hP, va_K.moved hW.alike hK, hD⟩, hS.F ht⟩) hS.2.2 dX0_begun_18
set_option maxHeartbeats 4000000 in
set_option maxRecDepth 100000 in
/-- steps -/
theorem c_X0_steps (l : Launch) (hl9 : l.stackTraces = false) (dC : Nat → ClassId) (dI : Nat → Nat → Nat) (c0 : ClassId) (a : Nat → Nat) (sz : Nat) (n : Nat) (wk sd bt lt lo rk ad vl bg cm : Nat → Int32) (sp gd rf : Int32) (ct : Nat) (rd : Int32) (sm : Int64) (js sn wl : Int32) (k : Int32) (hn : n ≤ 40) : vx_Met l yX0_steps wsX0_steps ({ frames := 7, cells := 2, slots := 12, locals := 103 }) (va_Pc [.ref (a 0), .int k] (PX dC dI c0 a (n, wk, sd, bt, lt, lo, rk, ad, vl, bg, cm, sp, gd, rf, ct, rd, sm, js, sn, wl) sz)) (va_Qi (fun (r : Int32) (u : xS) => f_steps (n, wk, sd, bt, lt, lo, rk, ad, vl, bg, cm, sp, gd, rf, ct, rd, sm, js, sn, wl) k = (0, r.toInt64, u)) (BX dC dI c0 a (va_A (wX c0 a (n, wk, sd, bt, lt, lo, rk, ad, vl, bg, cm, sp, gd, rf, ct, rd, sm, js, sn, wl)) sz)) (va_A (wX c0 a (n, wk, sd, bt, lt, lo, rk, ad, vl, bg, cm, sp, gd, rf, ct, rd, sm, js, sn, wl)) sz)) (vx_X (fun _ : Unit => True) (fun (E : String) (_ : Unit) t => ((E = "java/lang/IndexOutOfBoundsException" ∧ f_steps (n, wk, sd, bt, lt, lo, rk, ad, vl, bg, cm, sp, gd, rf, ct, rd, sm, js, sn, wl) k = (1, 0, (n, wk, sd, bt, lt, lo, rk, ad, vl, bg, cm, sp, gd, rf, ct, rd, sm, js, sn, wl))) ∨ (E = "java/lang/IllegalStateException" ∧ f_steps (n, wk, sd, bt, lt, lo, rk, ad, vl, bg, cm, sp, gd, rf, ct, rd, sm, js, sn, wl) k = (2, 0, (n, wk, sd, bt, lt, lo, rk, ad, vl, bg, cm, sp, gd, rf, ct, rd, sm, js, sn, wl)))) ∧ BX dC dI c0 a (va_A (wX c0 a (n, wk, sd, bt, lt, lo, rk, ad, vl, bg, cm, sp, gd, rf, ct, rd, sm, js, sn, wl)) sz) (n, wk, sd, bt, lt, lo, rk, ad, vl, bg, cm, sp, gd, rf, ct, rd, sm, js, sn, wl) t) (va_A (wX c0 a (n, wk, sd, bt, lt, lo, rk, ad, vl, bg, cm, sp, gd, rf, ct, rd, sm, js, sn, wl)) sz)) 2 12 (va_A (wX c0 a (n, wk, sd, bt, lt, lo, rk, ad, vl, bg, cm, sp, gd, rf, ct, rd, sm, js, sn, wl)) sz) := by
  refine vx_ofW (cc := cX0_steps) (maxL := 2) (ret := (some .int)) (by decide) rfl ?_
  intro p e s m args below meth c s₁ B hml hne hv
  obtain ⟨rfl, hsz, hP, hK, hD0, hE⟩ := hv
  have hx := B.exec
  have hb := B.bytes
  have hr := B.returns
  have hown : s.vm.findClass RX0 = some m.cls := findClass_of_methodNamed B.named
  have hlocks := B.notSynchronized
  subst hsz
  have hD := hD0.self (sz := s.heap.size)
  generalize hAe : va_A (wX c0 a (n, wk, sd, bt, lt, lo, rk, ad, vl, bg, cm, sp, gd, rf, ct, rd, sm, js, sn, wl)) s.heap.size = A at hD hE ⊢
  have hts := hE.ts (args := ([.ref (a 0), .int k] : List Value).toArray)
  have hA : ∀ q : Nat, s.heap.size ≤ q → A q := fun q h => by rw [← hAe]; exact Or.inr h
  have hS : va_S A s.heap s.heap [] := va_S.rf
  have hP : va_P (dC, dI) vwCl (wX c0 a (n, wk, sd, bt, lt, lo, rk, ad, vl, bg, cm, sp, gd, rf, ct, rd, sm, js, sn, wl)) s.heap := hP
  have hl := lv_entry ([.ref (a 0), .int k]) (n := 2) (Nat.le_of_ble_eq_true rfl)
  rw [lg_entry_eq]
  generalize (lg_sl ([.ref (a 0), .int k]) ++ List.replicate (2 - (lg_sl ([.ref (a 0), .int k])).length) Slot.unset).toArray = ls at hl ⊢
  have hl : lv_has ls 2 [(0, .ref (a 0)), (1, .int k)] := hl
  refine lv_iload_n hx hb dX0_steps_0 rfl (lv_at hl 1 rfl) ?_
  refine lv_if_lt (tgt := 9) hx hb dX0_steps_1 (by decide) (fun c_1 => ?_) (fun c_1 => ?_)
  · skip
    obtain ⟨sa, hsa⟩ := hE.st (RX0, 144, "what is not 0 or 1") (by decide)
    exact vx_throwS (own := RX0) (cls := "java/lang/IndexOutOfBoundsException") (text := "what is not 0 or 1") (names := ["java/lang/RuntimeException", "java/lang/Exception"]) (ik := 80) (is := 144) (ic := 84) hx hb hl9 hown (by decide +kernel) (by decide +kernel) (hE.t m_178 rfl) (hE.t m_31 rfl) hsa (vx_hat (L := (vx_atS RX0 84 "java/lang/IndexOutOfBoundsException" ["java/lang/RuntimeException", "java/lang/Exception"])) (B := [.castable "java/lang/IndexOutOfBoundsException" "java/lang/IndexOutOfBoundsException", .declares ⟨"java/lang/RuntimeException", "<init>", "(Ljava/lang/String;)V"⟩, .declares ⟨"java/lang/Exception", "<init>", "(Ljava/lang/String;)V"⟩, .declares ⟨"java/lang/Throwable", "<init>", "(Ljava/lang/String;)V"⟩]) (fun w hw => hts w (List.mem_filter.mpr ⟨at_X0_IndexOutOfBoundsException w hw, (List.mem_filter.mp hw).2⟩)) ab_X0_IndexOutOfBoundsException (vx_c (hE.t m_180 rfl) (vx_c (hE.t m_182 rfl) (vx_c (hE.t m_184 rfl) (vx_c (hE.t m_186 rfl) vx_n))))) gd_X0_IndexOutOfBoundsException hE.zu hE.zn hS (by rw [hml]; exact hl.1) dX0_steps_9 dX0_steps_12 dX0_steps_13 dX0_steps_15 dX0_steps_18 (fun x hx => (hne x hx).elim) (by decide) (by decide) (by decide) (by decide) hlocks (fun t hvm h1 h2 => ⟨(), trivial, ⟨Or.inl ⟨rfl, (by simp only [f_steps, c_1, ↓reduceIte])⟩, (thr_B hP hK hD hS hvm h1 h2).1⟩, (thr_B hP hK hD hS hvm h1 h2).2⟩) hS.2.2 (by decide) (by decide)
  · skip
    refine lv_iload_n hx hb dX0_steps_4 rfl (lv_at hl 1 rfl) ?_
    refine lv_iconst (v := 1) hx hb dX0_steps_5 (by decide) ?_
    refine lv_icmp_le (tgt := 19) hx hb dX0_steps_6 (by decide) (fun c_6 => ?_) (fun c_6 => ?_)
    · skip
      refine lv_aload_n hx hb dX0_steps_19 rfl (lv_at hl 0 rfl) ?_
      have hFc := fre hD hS hA
      refine vx_callv (vx_runV (As := []) (rest := []) ⟨hx, hb, hml, hown, hts⟩ (c_X0_needRun l hl9 dC dI c0 a _ n wk sd bt lt lo rk ad vl bg cm sp gd rf ct rd sm js sn wl ) (cwV 0 hts gX0_steps_X0_needRun rfl rfl rfl (by decide +kernel) ⟨(Nat.le_of_ble_eq_true rfl), (Nat.le_of_ble_eq_true rfl)⟩) ⟨PX_blind, va_recv hK hP (ci := 0) (q0 := 0) rfl rfl, PX_give hP hK hD hE hS hFc⟩ rfl rfl hl.1 rfl (lv_room (Nat.le_of_ble_eq_true rfl)) dX0_steps_20 ⟨by decide, by decide⟩) hS (fun q _ h => hFc q h) hFc (fun q _ h => hFc q h) (fun E ce q9 u t H1 locs ht hvm hw hB hz1 hk1 hS hce hcv hcl => ?_) (fun u t H1 locs ht hvm hw hB hz1 hk1 hS => ?_)
      · skip
        obtain ⟨hEE, hB⟩ := hB
        obtain ⟨hP, hD⟩ := PX_take ht hFc hB
        exact vx_out (E := E) (fun x hx => (hne x hx).elim) hlocks hce hcv hcl (fun t ht ha => ⟨(), trivial, ⟨Or.inr ⟨hEE.1, (by simp only [f_steps, c_1, c_6, hEE.2, ↓reduceIte])⟩, by rw [ht]; exact hP, va_K.moved ha hK, hD⟩, hS.F ht⟩) hS.2.2 (by decide) (by decide)
      · skip
        obtain ⟨hr1, rfl⟩ := hw
        obtain ⟨hP, hD⟩ := PX_take ht hFc hB
        generalize H1 = H at hP hS ⊢
        have hP : va_P (dC, dI) vwCl (wX c0 a (n, wk, sd, bt, lt, lo, rk, ad, vl, bg, cm, sp, gd, rf, ct, rd, sm, js, sn, wl)) H := hP
        have hD : va_D A (wX c0 a (n, wk, sd, bt, lt, lo, rk, ad, vl, bg, cm, sp, gd, rf, ct, rd, sm, js, sn, wl)) := hD
        refine lv_iload_n hx hb dX0_steps_23 rfl (lv_at hl 1 rfl) ?_
        refine lv_if_ne (tgt := 37) hx hb dX0_steps_24 (by decide) (fun c_24 => ?_) (fun c_24 => ?_)
        · skip
          refine lv_aload_n hx hb dX0_steps_37 rfl (lv_at hl 0 rfl) ?_
          refine va_get (D := (dC, dI)) (ci := 0) (v := .ref (a 3)) (C := RX0) (T := TX0) (N := 6) hx hb hts inX0 hown hK hP 0 rfl rfl 2 (by decide) (hE.t m_145 rfl) (fun _ h9 => h9) rfl dX0_steps_38 ?_
          refine va_getN (D := (dC, dI)) (ci := 3) (v := .int wl) (C := RX3) (T := TX3) (N := 8) hx hb hts inX3 hown hK hP 3 rfl rfl 7 (by decide) (hE.t m_125 rfl) (fun _ h9 => h9) rfl dX0_steps_41 ?_
          refine vx_ret ?_
          refine W.widen (k := 2) (n := 12) (by omega) (by omega) ?_
          exact W.iret (v := wl) hx hb hr (fun t ht hW => ⟨⟨wl, (n, wk, sd, bt, lt, lo, rk, ad, vl, bg, cm, sp, gd, rf, ct, rd, sm, js, sn, wl), rfl, (by simp only [f_steps, c_1, c_6, c_24, hr1, ↓reduceIte]), by rw [ht]; exact hP, va_K.moved hW.alike hK, hD⟩, hS.F ht⟩) hS.2.2 dX0_steps_44
        · skip
          refine lv_aload_n hx hb dX0_steps_27 rfl (lv_at hl 0 rfl) ?_
          refine va_get (D := (dC, dI)) (ci := 0) (v := .ref (a 3)) (C := RX0) (T := TX0) (N := 6) hx hb hts inX0 hown hK hP 0 rfl rfl 2 (by decide) (hE.t m_145 rfl) (fun _ h9 => h9) rfl dX0_steps_28 ?_
          refine va_getN (D := (dC, dI)) (ci := 3) (v := .int sn) (C := RX3) (T := TX3) (N := 8) hx hb hts inX3 hown hK hP 3 rfl rfl 6 (by decide) (hE.t m_124 rfl) (fun _ h9 => h9) rfl dX0_steps_31 ?_
          refine lv_goto (tgt := 44) hx hb dX0_steps_34 (by decide) ?_
          refine vx_ret ?_
          refine W.widen (k := 2) (n := 12) (by omega) (by omega) ?_
          exact W.iret (v := sn) hx hb hr (fun t ht hW => ⟨⟨sn, (n, wk, sd, bt, lt, lo, rk, ad, vl, bg, cm, sp, gd, rf, ct, rd, sm, js, sn, wl), rfl, (by simp only [f_steps, c_1, c_6, eq_true c_24, hr1, ↓reduceIte]), by rw [ht]; exact hP, va_K.moved hW.alike hK, hD⟩, hS.F ht⟩) hS.2.2 dX0_steps_44
    · skip
      obtain ⟨sa, hsa⟩ := hE.st (RX0, 144, "what is not 0 or 1") (by decide)
      exact vx_throwS (own := RX0) (cls := "java/lang/IndexOutOfBoundsException") (text := "what is not 0 or 1") (names := ["java/lang/RuntimeException", "java/lang/Exception"]) (ik := 80) (is := 144) (ic := 84) hx hb hl9 hown (by decide +kernel) (by decide +kernel) (hE.t m_178 rfl) (hE.t m_31 rfl) hsa (vx_hat (L := (vx_atS RX0 84 "java/lang/IndexOutOfBoundsException" ["java/lang/RuntimeException", "java/lang/Exception"])) (B := [.castable "java/lang/IndexOutOfBoundsException" "java/lang/IndexOutOfBoundsException", .declares ⟨"java/lang/RuntimeException", "<init>", "(Ljava/lang/String;)V"⟩, .declares ⟨"java/lang/Exception", "<init>", "(Ljava/lang/String;)V"⟩, .declares ⟨"java/lang/Throwable", "<init>", "(Ljava/lang/String;)V"⟩]) (fun w hw => hts w (List.mem_filter.mpr ⟨at_X0_IndexOutOfBoundsException w hw, (List.mem_filter.mp hw).2⟩)) ab_X0_IndexOutOfBoundsException (vx_c (hE.t m_180 rfl) (vx_c (hE.t m_182 rfl) (vx_c (hE.t m_184 rfl) (vx_c (hE.t m_186 rfl) vx_n))))) gd_X0_IndexOutOfBoundsException hE.zu hE.zn hS (by rw [hml]; exact hl.1) dX0_steps_9 dX0_steps_12 dX0_steps_13 dX0_steps_15 dX0_steps_18 (fun x hx => (hne x hx).elim) (by decide) (by decide) (by decide) (by decide) hlocks (fun t hvm h1 h2 => ⟨(), trivial, ⟨Or.inl ⟨rfl, (by simp only [f_steps, c_1, c_6, ↓reduceIte])⟩, (thr_B hP hK hD hS hvm h1 h2).1⟩, (thr_B hP hK hD hS hvm h1 h2).2⟩) hS.2.2 (by decide) (by decide)
set_option maxHeartbeats 4000000 in
set_option maxRecDepth 100000 in
/-- count -/
theorem c_X0_count (l : Launch) (hl9 : l.stackTraces = false) (dC : Nat → ClassId) (dI : Nat → Nat → Nat) (c0 : ClassId) (a : Nat → Nat) (sz : Nat) (n : Nat) (wk sd bt lt lo rk ad vl bg cm : Nat → Int32) (sp gd rf : Int32) (ct : Nat) (rd : Int32) (sm : Int64) (js sn wl : Int32) (k : Int32) (hn : n ≤ 40) : vx_Met l yX0_count wsX0_count ({ frames := 7, cells := 1, slots := 6, locals := 103 }) (va_Pc [.ref (a 0), .int k] (PX dC dI c0 a (n, wk, sd, bt, lt, lo, rk, ad, vl, bg, cm, sp, gd, rf, ct, rd, sm, js, sn, wl) sz)) (va_Qi (fun (r : Int32) (u : xS) => f_count (n, wk, sd, bt, lt, lo, rk, ad, vl, bg, cm, sp, gd, rf, ct, rd, sm, js, sn, wl) k = (0, r.toInt64, u)) (BX dC dI c0 a (va_A (wX c0 a (n, wk, sd, bt, lt, lo, rk, ad, vl, bg, cm, sp, gd, rf, ct, rd, sm, js, sn, wl)) sz)) (va_A (wX c0 a (n, wk, sd, bt, lt, lo, rk, ad, vl, bg, cm, sp, gd, rf, ct, rd, sm, js, sn, wl)) sz)) (vx_X (fun _ : Unit => True) (fun (E : String) (_ : Unit) t => ((E = "java/lang/IndexOutOfBoundsException" ∧ f_count (n, wk, sd, bt, lt, lo, rk, ad, vl, bg, cm, sp, gd, rf, ct, rd, sm, js, sn, wl) k = (1, 0, (n, wk, sd, bt, lt, lo, rk, ad, vl, bg, cm, sp, gd, rf, ct, rd, sm, js, sn, wl)))) ∧ BX dC dI c0 a (va_A (wX c0 a (n, wk, sd, bt, lt, lo, rk, ad, vl, bg, cm, sp, gd, rf, ct, rd, sm, js, sn, wl)) sz) (n, wk, sd, bt, lt, lo, rk, ad, vl, bg, cm, sp, gd, rf, ct, rd, sm, js, sn, wl) t) (va_A (wX c0 a (n, wk, sd, bt, lt, lo, rk, ad, vl, bg, cm, sp, gd, rf, ct, rd, sm, js, sn, wl)) sz)) 1 6 (va_A (wX c0 a (n, wk, sd, bt, lt, lo, rk, ad, vl, bg, cm, sp, gd, rf, ct, rd, sm, js, sn, wl)) sz) := by
  refine vx_ofW (cc := cX0_count) (maxL := 2) (ret := (some .int)) (by decide) rfl ?_
  intro p e s m args below meth c s₁ B hml hne hv
  obtain ⟨rfl, hsz, hP, hK, hD0, hE⟩ := hv
  have hx := B.exec
  have hb := B.bytes
  have hr := B.returns
  have hown : s.vm.findClass RX0 = some m.cls := findClass_of_methodNamed B.named
  have hlocks := B.notSynchronized
  subst hsz
  have hD := hD0.self (sz := s.heap.size)
  generalize hAe : va_A (wX c0 a (n, wk, sd, bt, lt, lo, rk, ad, vl, bg, cm, sp, gd, rf, ct, rd, sm, js, sn, wl)) s.heap.size = A at hD hE ⊢
  have hts := hE.ts (args := ([.ref (a 0), .int k] : List Value).toArray)
  have hA : ∀ q : Nat, s.heap.size ≤ q → A q := fun q h => by rw [← hAe]; exact Or.inr h
  have hS : va_S A s.heap s.heap [] := va_S.rf
  have hP : va_P (dC, dI) vwCl (wX c0 a (n, wk, sd, bt, lt, lo, rk, ad, vl, bg, cm, sp, gd, rf, ct, rd, sm, js, sn, wl)) s.heap := hP
  have hl := lv_entry ([.ref (a 0), .int k]) (n := 2) (Nat.le_of_ble_eq_true rfl)
  rw [lg_entry_eq]
  generalize (lg_sl ([.ref (a 0), .int k]) ++ List.replicate (2 - (lg_sl ([.ref (a 0), .int k])).length) Slot.unset).toArray = ls at hl ⊢
  have hl : lv_has ls 2 [(0, .ref (a 0)), (1, .int k)] := hl
  refine lv_iload_n hx hb dX0_count_0 rfl (lv_at hl 1 rfl) ?_
  by_cases hlo_1 : k.toInt < 0 ∨ 3 < k.toInt
  · skip
    refine lv_tableOut (tgt := 58) hx hb dX0_count_1 hlo_1 (by decide) ?_
    obtain ⟨sa, hsa⟩ := hE.st (RX0, 149, "what is not 0 .. 3") (by decide)
    exact vx_throwS (own := RX0) (cls := "java/lang/IndexOutOfBoundsException") (text := "what is not 0 .. 3") (names := ["java/lang/RuntimeException", "java/lang/Exception"]) (ik := 80) (is := 149) (ic := 84) hx hb hl9 hown (by decide +kernel) (by decide +kernel) (hE.t m_178 rfl) (hE.t m_31 rfl) hsa (vx_hat (L := (vx_atS RX0 84 "java/lang/IndexOutOfBoundsException" ["java/lang/RuntimeException", "java/lang/Exception"])) (B := [.castable "java/lang/IndexOutOfBoundsException" "java/lang/IndexOutOfBoundsException", .declares ⟨"java/lang/RuntimeException", "<init>", "(Ljava/lang/String;)V"⟩, .declares ⟨"java/lang/Exception", "<init>", "(Ljava/lang/String;)V"⟩, .declares ⟨"java/lang/Throwable", "<init>", "(Ljava/lang/String;)V"⟩]) (fun w hw => hts w (List.mem_filter.mpr ⟨at_X0_IndexOutOfBoundsException w hw, (List.mem_filter.mp hw).2⟩)) ab_X0_IndexOutOfBoundsException (vx_c (hE.t m_180 rfl) (vx_c (hE.t m_182 rfl) (vx_c (hE.t m_184 rfl) (vx_c (hE.t m_186 rfl) vx_n))))) gd_X0_IndexOutOfBoundsException hE.zu hE.zn hS (by rw [hml]; exact hl.1) dX0_count_58 dX0_count_61 dX0_count_62 dX0_count_64 dX0_count_67 (fun x hx => (hne x hx).elim) (by decide) (by decide) (by decide) (by decide) hlocks (fun t hvm h1 h2 => ⟨(), trivial, ⟨⟨rfl, (by obtain ⟨q0, q1, q2, q3⟩ := ne4 hlo_1; simp only [f_count, q0, q1, q2, q3, ↓reduceIte])⟩, (thr_B hP hK hD hS hvm h1 h2).1⟩, (thr_B hP hK hD hS hvm h1 h2).2⟩) hS.2.2 (by decide) (by decide)
  have hv_1 : k = 0 ∨ k = 1 ∨ k = 2 ∨ k = 3 := by
    have hh := hlo_1
    exact sw4 _ hh
  rcases hv_1 with hv_1 | hv_1 | hv_1 | hv_1
  · skip
    refine lv_tableIn (tgt := 32) (off := 31) hx hb dX0_count_1 (by rw [hv_1]; decide) (by rw [hv_1]; decide) (by rw [hv_1]; rfl) (by decide) ?_
    refine lv_aload_n hx hb dX0_count_32 rfl (lv_at hl 0 rfl) ?_
    refine va_get (D := (dC, dI)) (ci := 0) (v := .ref (a 1)) (C := RX0) (T := TX0) (N := 6) hx hb hts inX0 hown hK hP 0 rfl rfl 0 (by decide) (hE.t m_143 rfl) (fun _ h9 => h9) rfl dX0_count_33 ?_
    refine va_getN (D := (dC, dI)) (ci := 1) (v := .int (nI n)) (C := RX1) (T := TX1) (N := 6) hx hb hts inX1 hown hK hP 1 rfl rfl 0 (by decide) (hE.t m_59 rfl) (fun _ h9 => h9) rfl dX0_count_36 ?_
    refine vx_ret ?_
    refine W.widen (k := 1) (n := 6) (by omega) (by omega) ?_
    exact W.iret (v := nI n) hx hb hr (fun t ht hW => ⟨⟨nI n, (n, wk, sd, bt, lt, lo, rk, ad, vl, bg, cm, sp, gd, rf, ct, rd, sm, js, sn, wl), rfl, (by rw [hv_1]; first | rfl | (simp [f_count])), by rw [ht]; exact hP, va_K.moved hW.alike hK, hD⟩, hS.F ht⟩) hS.2.2 dX0_count_39
  · skip
    refine lv_tableIn (tgt := 40) (off := 39) hx hb dX0_count_1 (by rw [hv_1]; decide) (by rw [hv_1]; decide) (by rw [hv_1]; rfl) (by decide) ?_
    refine lv_aload_n hx hb dX0_count_40 rfl (lv_at hl 0 rfl) ?_
    refine va_get (D := (dC, dI)) (ci := 0) (v := .ref (a 2)) (C := RX0) (T := TX0) (N := 6) hx hb hts inX0 hown hK hP 0 rfl rfl 1 (by decide) (hE.t m_144 rfl) (fun _ h9 => h9) rfl dX0_count_41 ?_
    refine va_getN (D := (dC, dI)) (ci := 2) (v := .int (nI ct)) (C := RX2) (T := TX2) (N := 3) hx hb hts inX2 hown hK hP 2 rfl rfl 2 (by decide) (hE.t m_97 rfl) (fun _ h9 => h9) rfl dX0_count_44 ?_
    refine vx_ret ?_
    refine W.widen (k := 1) (n := 6) (by omega) (by omega) ?_
    exact W.iret (v := nI ct) hx hb hr (fun t ht hW => ⟨⟨nI ct, (n, wk, sd, bt, lt, lo, rk, ad, vl, bg, cm, sp, gd, rf, ct, rd, sm, js, sn, wl), rfl, (by rw [hv_1]; first | rfl | (simp [f_count])), by rw [ht]; exact hP, va_K.moved hW.alike hK, hD⟩, hS.F ht⟩) hS.2.2 dX0_count_47
  · skip
    refine lv_tableIn (tgt := 48) (off := 47) hx hb dX0_count_1 (by rw [hv_1]; decide) (by rw [hv_1]; decide) (by rw [hv_1]; rfl) (by decide) ?_
    refine lv_aload_n hx hb dX0_count_48 rfl (lv_at hl 0 rfl) ?_
    refine va_get (D := (dC, dI)) (ci := 0) (v := .int gd) (C := RX0) (T := TX0) (N := 6) hx hb hts inX0 hown hK hP 0 rfl rfl 4 (by decide) (hE.t m_147 rfl) (fun _ h9 => h9) rfl dX0_count_49 ?_
    refine vx_ret ?_
    refine W.widen (k := 1) (n := 6) (by omega) (by omega) ?_
    exact W.iret (v := gd) hx hb hr (fun t ht hW => ⟨⟨gd, (n, wk, sd, bt, lt, lo, rk, ad, vl, bg, cm, sp, gd, rf, ct, rd, sm, js, sn, wl), rfl, (by rw [hv_1]; first | rfl | (simp [f_count])), by rw [ht]; exact hP, va_K.moved hW.alike hK, hD⟩, hS.F ht⟩) hS.2.2 dX0_count_52
  · skip
    refine lv_tableIn (tgt := 53) (off := 52) hx hb dX0_count_1 (by rw [hv_1]; decide) (by rw [hv_1]; decide) (by rw [hv_1]; rfl) (by decide) ?_
    refine lv_aload_n hx hb dX0_count_53 rfl (lv_at hl 0 rfl) ?_
    refine va_get (D := (dC, dI)) (ci := 0) (v := .int rf) (C := RX0) (T := TX0) (N := 6) hx hb hts inX0 hown hK hP 0 rfl rfl 5 (by decide) (hE.t m_148 rfl) (fun _ h9 => h9) rfl dX0_count_54 ?_
    refine vx_ret ?_
    refine W.widen (k := 1) (n := 6) (by omega) (by omega) ?_
    exact W.iret (v := rf) hx hb hr (fun t ht hW => ⟨⟨rf, (n, wk, sd, bt, lt, lo, rk, ad, vl, bg, cm, sp, gd, rf, ct, rd, sm, js, sn, wl), rfl, (by rw [hv_1]; first | rfl | (simp [f_count])), by rw [ht]; exact hP, va_K.moved hW.alike hK, hD⟩, hS.F ht⟩) hS.2.2 dX0_count_57
end
section
theorem in01 : vp_in 0 1 := by rw [← nI_0]; exact vp_in_nI (by omega) (by omega)
theorem gL_share_X0_share : GoodIn lw_good (wsV RL 7 RX0 yX0_share wsX0_share) := gm (List.forall_mem_cons.mpr ⟨⟨m_170, rfl⟩, List.forall_mem_cons.mpr ⟨⟨m_171, rfl⟩, List.forall_mem_cons.mpr ⟨⟨m_172, rfl⟩, List.forall_mem_cons.mpr ⟨⟨m_21, rfl⟩, List.forall_mem_cons.mpr ⟨⟨m_173, rfl⟩, fun _ h => absurd h List.not_mem_nil⟩⟩⟩⟩⟩)
theorem gL_fails_X0_fails : GoodIn lw_good (wsV RL 17 RX0 yX0_fails wsX0_fails) := gm (List.forall_mem_cons.mpr ⟨⟨m_266, rfl⟩, List.forall_mem_cons.mpr ⟨⟨m_267, rfl⟩, List.forall_mem_cons.mpr ⟨⟨m_268, rfl⟩, List.forall_mem_cons.mpr ⟨⟨m_21, rfl⟩, List.forall_mem_cons.mpr ⟨⟨m_269, rfl⟩, fun _ h => absurd h List.not_mem_nil⟩⟩⟩⟩⟩)
theorem gL_act_X0_act : GoodIn lw_good (wsV RL 21 RX0 yX0_act wsX0_act) := gm (List.forall_mem_cons.mpr ⟨⟨m_276, rfl⟩, List.forall_mem_cons.mpr ⟨⟨m_277, rfl⟩, List.forall_mem_cons.mpr ⟨⟨m_278, rfl⟩, List.forall_mem_cons.mpr ⟨⟨m_21, rfl⟩, List.forall_mem_cons.mpr ⟨⟨m_279, rfl⟩, fun _ h => absurd h List.not_mem_nil⟩⟩⟩⟩⟩)
theorem gL_stop_X0_stop : GoodIn lw_good (wsV RL 27 RX0 yX0_stop wsX0_stop) := gm (List.forall_mem_cons.mpr ⟨⟨m_304, rfl⟩, List.forall_mem_cons.mpr ⟨⟨m_305, rfl⟩, List.forall_mem_cons.mpr ⟨⟨m_306, rfl⟩, List.forall_mem_cons.mpr ⟨⟨m_21, rfl⟩, List.forall_mem_cons.mpr ⟨⟨m_307, rfl⟩, fun _ h => absurd h List.not_mem_nil⟩⟩⟩⟩⟩)
theorem gL_run_X0_run : GoodIn lw_good (wsV RL 31 RX0 yX0_run wsX0_run) := gm (List.forall_mem_cons.mpr ⟨⟨m_311, rfl⟩, List.forall_mem_cons.mpr ⟨⟨m_312, rfl⟩, List.forall_mem_cons.mpr ⟨⟨m_313, rfl⟩, List.forall_mem_cons.mpr ⟨⟨m_21, rfl⟩, List.forall_mem_cons.mpr ⟨⟨m_314, rfl⟩, fun _ h => absurd h List.not_mem_nil⟩⟩⟩⟩⟩)
theorem gL_joined_X0_joined : GoodIn lw_good (wsV RL 34 RX0 yX0_joined wsX0_joined) := gm (List.forall_mem_cons.mpr ⟨⟨m_358, rfl⟩, List.forall_mem_cons.mpr ⟨⟨m_359, rfl⟩, List.forall_mem_cons.mpr ⟨⟨m_360, rfl⟩, List.forall_mem_cons.mpr ⟨⟨m_21, rfl⟩, List.forall_mem_cons.mpr ⟨⟨m_361, rfl⟩, fun _ h => absurd h List.not_mem_nil⟩⟩⟩⟩⟩)
theorem gL_many_X0_many : GoodIn lw_good (wsV RL 38 RX0 yX0_many wsX0_many) := gm (List.forall_mem_cons.mpr ⟨⟨m_370, rfl⟩, List.forall_mem_cons.mpr ⟨⟨m_371, rfl⟩, List.forall_mem_cons.mpr ⟨⟨m_372, rfl⟩, List.forall_mem_cons.mpr ⟨⟨m_21, rfl⟩, List.forall_mem_cons.mpr ⟨⟨m_373, rfl⟩, fun _ h => absurd h List.not_mem_nil⟩⟩⟩⟩⟩)
theorem gL_value_X0_value : GoodIn lw_good (wsV RL 42 RX0 yX0_value wsX0_value) := gm (List.forall_mem_cons.mpr ⟨⟨m_377, rfl⟩, List.forall_mem_cons.mpr ⟨⟨m_378, rfl⟩, List.forall_mem_cons.mpr ⟨⟨m_379, rfl⟩, List.forall_mem_cons.mpr ⟨⟨m_21, rfl⟩, List.forall_mem_cons.mpr ⟨⟨m_380, rfl⟩, fun _ h => absurd h List.not_mem_nil⟩⟩⟩⟩⟩)
theorem gL_chain_X0_chain : GoodIn lw_good (wsV RL 45 RX0 yX0_chain wsX0_chain) := gm (List.forall_mem_cons.mpr ⟨⟨m_384, rfl⟩, List.forall_mem_cons.mpr ⟨⟨m_385, rfl⟩, List.forall_mem_cons.mpr ⟨⟨m_386, rfl⟩, List.forall_mem_cons.mpr ⟨⟨m_21, rfl⟩, List.forall_mem_cons.mpr ⟨⟨m_387, rfl⟩, fun _ h => absurd h List.not_mem_nil⟩⟩⟩⟩⟩)
theorem gL_came_X0_came : GoodIn lw_good (wsV RL 49 RX0 yX0_came wsX0_came) := gm (List.forall_mem_cons.mpr ⟨⟨m_393, rfl⟩, List.forall_mem_cons.mpr ⟨⟨m_394, rfl⟩, List.forall_mem_cons.mpr ⟨⟨m_395, rfl⟩, List.forall_mem_cons.mpr ⟨⟨m_21, rfl⟩, List.forall_mem_cons.mpr ⟨⟨m_396, rfl⟩, fun _ h => absurd h List.not_mem_nil⟩⟩⟩⟩⟩)
theorem gL_begun_X0_begun : GoodIn lw_good (wsV RL 52 RX0 yX0_begun wsX0_begun) := gm (List.forall_mem_cons.mpr ⟨⟨m_401, rfl⟩, List.forall_mem_cons.mpr ⟨⟨m_402, rfl⟩, List.forall_mem_cons.mpr ⟨⟨m_403, rfl⟩, List.forall_mem_cons.mpr ⟨⟨m_21, rfl⟩, List.forall_mem_cons.mpr ⟨⟨m_404, rfl⟩, fun _ h => absurd h List.not_mem_nil⟩⟩⟩⟩⟩)
theorem gL_steps_X0_steps : GoodIn lw_good (wsV RL 55 RX0 yX0_steps wsX0_steps) := gm (List.forall_mem_cons.mpr ⟨⟨m_408, rfl⟩, List.forall_mem_cons.mpr ⟨⟨m_409, rfl⟩, List.forall_mem_cons.mpr ⟨⟨m_410, rfl⟩, List.forall_mem_cons.mpr ⟨⟨m_21, rfl⟩, List.forall_mem_cons.mpr ⟨⟨m_411, rfl⟩, fun _ h => absurd h List.not_mem_nil⟩⟩⟩⟩⟩)
theorem gL_count_X0_count : GoodIn lw_good (wsV RL 58 RX0 yX0_count wsX0_count) := gm (List.forall_mem_cons.mpr ⟨⟨m_416, rfl⟩, List.forall_mem_cons.mpr ⟨⟨m_417, rfl⟩, List.forall_mem_cons.mpr ⟨⟨m_418, rfl⟩, List.forall_mem_cons.mpr ⟨⟨m_21, rfl⟩, List.forall_mem_cons.mpr ⟨⟨m_419, rfl⟩, fun _ h => absurd h List.not_mem_nil⟩⟩⟩⟩⟩)
set_option maxHeartbeats 4000000 in
set_option maxRecDepth 100000 in
/-- the law's share -/
theorem c_L_share (l : Launch) (hl9 : l.stackTraces = false) (dC : Nat → ClassId) (dI : Nat → Nat → Nat) (c0 cL : ClassId) (o : Nat) (g : Nat → Int64) (a : Nat → Nat) (sz : Nat) (uu : xS) (hok : xok uu) (k : Int32) (w : Int32) (x : Int32) (b : Int32) : Met l yL_share wsL_share ({ frames := 8, cells := 2, slots := 12, locals := 128 }) (va_Pc [.ref (a 0), .int k, .int w, .int x, .int b, .ref o] (PW dC dI c0 cL a o uu g sz)) (va_Qi (fun (r : Int32) (v9 : xS × (Nat → Int64)) => r = (f_share uu k w x b).1 ∧ v9.1 = (f_share uu k w x b).2.2 ∧ v9.2 = if (f_share uu k w x b).1 = 0 then vp_updL g 0 (f_share uu k w x b).2.1 else g) (fun (v9 : xS × (Nat → Int64)) t => va_P (dC, dI) vwCl (WO c0 cL a o v9.1 v9.2) t.heap ∧ va_K (dC, dI) vwCl [(c0, .int), (cL, .long)] t ∧ va_D (va_A (WO c0 cL a o uu g) sz) (WO c0 cL a o v9.1 v9.2)) (va_A (WO c0 cL a o uu g) sz)) 2 12 (va_A (WO c0 cL a o uu g) sz) := by
  obtain ⟨n, wk, sd, bt, lt, lo, rk, ad, vl, bg, cm, sp, gd, rf, ct, rd, sm, js, sn, wl⟩ := uu
  obtain ⟨hn, hct⟩ := hok
  refine va_MetW (cc := cL_share) (maxL := 7) (ret := (some .int)) (hh := [(0, 14, 17, 13), (0, 14, 21, 15)]) (by decide) rfl ?_
  intro p e s m args below meth c s₁ B hml hv
  obtain ⟨rfl, hsz, hP, hK, hD0, hE⟩ := hv
  have hx := B.exec
  have hb := B.bytes
  have hr := B.returns
  have hown : s.vm.findClass RL = some m.cls := findClass_of_methodNamed B.named
  have hlocks := B.notSynchronized
  have hTab : c.exceptionTable.toList = tableOf [(0, 14, 17, 13), (0, 14, 21, 15)] := vx_table (x := yL_share) B (hE.t m_167 rfl)
  subst hsz
  have hD := hD0.self (sz := s.heap.size)
  generalize hAe : va_A (WO c0 cL a o (n, wk, sd, bt, lt, lo, rk, ad, vl, bg, cm, sp, gd, rf, ct, rd, sm, js, sn, wl) g) s.heap.size = A at hD hE ⊢
  have hts := hE.ts (args := ([.ref (a 0), .int k, .int w, .int x, .int b, .ref o] : List Value).toArray)
  have hA : ∀ q : Nat, s.heap.size ≤ q → A q := fun q h => by rw [← hAe]; exact Or.inr h
  have hS : va_S A s.heap s.heap [] := va_S.rf
  have hP : va_P (dC, dI) vwCl (WO c0 cL a o (n, wk, sd, bt, lt, lo, rk, ad, vl, bg, cm, sp, gd, rf, ct, rd, sm, js, sn, wl) g) s.heap := hP
  have hl := lv_entry ([.ref (a 0), .int k, .int w, .int x, .int b, .ref o]) (n := 7) (Nat.le_of_ble_eq_true rfl)
  rw [lg_entry_eq]
  generalize (lg_sl ([.ref (a 0), .int k, .int w, .int x, .int b, .ref o]) ++ List.replicate (7 - (lg_sl ([.ref (a 0), .int k, .int w, .int x, .int b, .ref o])).length) Slot.unset).toArray = ls at hl ⊢
  have hl : lv_has ls 7 [(0, .ref (a 0)), (1, .int k), (2, .int w), (3, .int x), (4, .int b), (5, .ref o)] := hl
  refine lv_aload hx hb dL_share_0 (lv_at hl 5 rfl) ?_
  refine lv_iconst (v := 0) hx hb dL_share_2 (by decide) ?_
  refine lv_aload_n hx hb dL_share_3 rfl (lv_at hl 0 rfl) ?_
  refine lv_iload_n hx hb dL_share_4 rfl (lv_at hl 1 rfl) ?_
  refine lv_iload_n hx hb dL_share_5 rfl (lv_at hl 2 rfl) ?_
  refine lv_iload_n hx hb dL_share_6 rfl (lv_at hl 3 rfl) ?_
  refine lv_iload hx hb dL_share_7 (lv_at hl 4 rfl) ?_
  have hPx := hP.sub (ws' := wX c0 a (n, wk, sd, bt, lt, lo, rk, ad, vl, bg, cm, sp, gd, rf, ct, rd, sm, js, sn, wl)) [1, 2, 3, 4, 5, 6, 7, 8, 9, 10, 11, 12, 13, 14] rfl
  have hDx := hD.sub (ws' := wX c0 a (n, wk, sd, bt, lt, lo, rk, ad, vl, bg, cm, sp, gd, rf, ct, rd, sm, js, sn, wl)) [1, 2, 3, 4, 5, 6, 7, 8, 9, 10, 11, 12, 13, 14] (by decide) rfl
  have hKx := hK.sub (tys' := [(c0, .int)]) [0] rfl
  have hPo := hP.sub (ws' := [(o, .inl (cL, 1, .inr (.inl g)))]) [0] rfl
  have hFx := fre hDx hS hA
  refine vx_calli (vx_runV (As := [.int k, .int w, .int x, .int b]) (rest := [.int 0, .ref o]) ⟨hx, hb, hml, hown, hts⟩ (c_X0_share l hl9 dC dI c0 a _ n wk sd bt lt lo rk ad vl bg cm sp gd rf ct rd sm js sn wl k w x b hn) (cwV 4 hts gL_share_X0_share rfl rfl rfl (by decide +kernel) ⟨(Nat.le_of_ble_eq_true rfl), (Nat.le_of_ble_eq_true rfl)⟩) ⟨PX_blind, va_recv hKx hPx (ci := 0) (q0 := 0) rfl rfl, PX_give hPx hKx hDx hE hS hFx⟩ rfl rfl hl.1 rfl (lv_room (Nat.le_of_ble_eq_true rfl)) dL_share_9 ⟨by decide, by decide⟩) hS (fun q _ h => hFx q h) hFx (fun q _ h => hFx q h) (fun E ce q9 u t H1 locs ht hvm hw hB hz1 hk1 hS hce hcv hcl => ?_) (fun r u t H1 locs ht hvm hw hB hz1 hk1 hS => ?_)
  · skip
    obtain ⟨hEE, hB⟩ := hB
    obtain ⟨hP1, -, hD1⟩ := hB
    rw [ht] at hP1
    obtain ⟨hPo, hD⟩ := jnL (Q := [(o, .inl (cL, 1, .inr (.inl g)))]) (P := wX c0 a (n, wk, sd, bt, lt, lo, rk, ad, vl, bg, cm, sp, gd, rf, ct, rd, sm, js, sn, wl)) hPo hD hk1 hD1 hFx
    have hP := hPo.app hP1
    rcases hEE with ⟨rfl, hf9⟩ | ⟨rfl, hf9⟩
    · skip
      have hP : va_P (dC, dI) vwCl (WO c0 cL a o (n, wk, sd, bt, lt, lo, rk, ad, vl, bg, cm, sp, gd, rf, ct, rd, sm, js, sn, wl) g) H1 := hP
      have hD : va_D A (WO c0 cL a o (n, wk, sd, bt, lt, lo, rk, ad, vl, bg, cm, sp, gd, rf, ct, rd, sm, js, sn, wl) g) := hD
      refine vx_catch (own := RL) (name := "java/lang/IndexOutOfBoundsException") (E := "java/lang/IndexOutOfBoundsException") hown [] ⟨0, 14, 17, 13⟩ [⟨0, 14, 21, 15⟩] (by rw [hTab]; rfl) (fun z hz => nomatch hz) (by decide) (by decide) (hE.t m_168 rfl) (hE.t m_180 rfl) hce hcv hcl ?_
      refine lv_astore (lv' := [(6, .ref q9), (0, .ref (a 0)), (1, .int k), (2, .int w), (3, .int x), (4, .int b), (5, .ref o)]) hx hb dL_share_17 hl (by decide) rfl (fun ls hl => ?_)
      refine lv_iconst (v := 1) hx hb dL_share_19 (by decide) ?_
      exact W.iret (v := 1) hx hb hr (fun t ht hW => ⟨⟨1, ((n, wk, sd, bt, lt, lo, rk, ad, vl, bg, cm, sp, gd, rf, ct, rd, sm, js, sn, wl), g), rfl, ⟨by rw [hf9], by rw [hf9], by rw [hf9]; simp⟩, by rw [ht]; exact hP, va_K.moved hW.alike hK, hD⟩, hS.F ht⟩) hS.2.2 dL_share_20
    · skip
      have hP : va_P (dC, dI) vwCl (WO c0 cL a o (n, wk, sd, bt, lt, lo, rk, ad, vl, bg, cm, sp, gd, rf, ct, rd, sm, js, sn, wl) g) H1 := hP
      have hD : va_D A (WO c0 cL a o (n, wk, sd, bt, lt, lo, rk, ad, vl, bg, cm, sp, gd, rf, ct, rd, sm, js, sn, wl) g) := hD
      refine vx_catch (own := RL) (name := "java/lang/IllegalArgumentException") (E := "java/lang/IllegalArgumentException") hown [⟨0, 14, 17, 13⟩] ⟨0, 14, 21, 15⟩ [] (by rw [hTab]; rfl) (by
          intro z hz
          rcases List.mem_cons.mp hz with rfl | hz
          · exact Or.inr ⟨by decide, "java/lang/IndexOutOfBoundsException", hts (.classLink RL 13 "java/lang/IndexOutOfBoundsException") (by decide +kernel), hE.nc ("java/lang/IllegalArgumentException", "java/lang/IndexOutOfBoundsException") (by decide +kernel)⟩
          cases hz) (by decide) (by decide) (hE.t m_169 rfl) (hE.t m_248 rfl) hce hcv hcl ?_
      refine lv_astore (lv' := [(6, .ref q9), (0, .ref (a 0)), (1, .int k), (2, .int w), (3, .int x), (4, .int b), (5, .ref o)]) hx hb dL_share_21 hl (by decide) rfl (fun ls hl => ?_)
      refine lv_iconst (v := 2) hx hb dL_share_23 (by decide) ?_
      exact W.iret (v := 2) hx hb hr (fun t ht hW => ⟨⟨2, ((n, wk, sd, bt, lt, lo, rk, ad, vl, bg, cm, sp, gd, rf, ct, rd, sm, js, sn, wl), g), rfl, ⟨by rw [hf9], by rw [hf9], by rw [hf9]; simp⟩, by rw [ht]; exact hP, va_K.moved hW.alike hK, hD⟩, hS.F ht⟩) hS.2.2 dL_share_24
  · skip
    obtain ⟨hP1, -, hD1⟩ := hB
    rw [ht] at hP1
    obtain ⟨hPo, hD⟩ := jnL (Q := [(o, .inl (cL, 1, .inr (.inl g)))]) (P := wX c0 a (n, wk, sd, bt, lt, lo, rk, ad, vl, bg, cm, sp, gd, rf, ct, rd, sm, js, sn, wl)) hPo hD hk1 hD1 hFx
    have hP := hPo.app hP1
    have hP : va_P (dC, dI) vwCl (WO c0 cL a o u g) H1 := hP
    have hD : va_D A (WO c0 cL a o u g) := hD
    generalize H1 = H at hP hS ⊢
    refine lv_i2l hx hb dL_share_12 (v := r.toInt64) rfl ?_
    refine va_last hx hb hK hP hD hS 0 1 rfl rfl in01 dL_share_13 (fun H locs hP hD hS => ?_)
    rw [sb_cl0] at hP hD
    have hP : va_P (dC, dI) vwCl (WO c0 cL a o u (vp_updL g 0 r.toInt64)) H := hP
    have hD : va_D A (WO c0 cL a o u (vp_updL g 0 r.toInt64)) := hD
    refine lv_goto (tgt := 25) hx hb dL_share_14 (by decide) ?_
    refine lv_iconst (v := 0) hx hb dL_share_25 (by decide) ?_
    exact W.iret (v := 0) hx hb hr (fun t ht hW => ⟨⟨0, (u, vp_updL g 0 r.toInt64), rfl, ⟨by rw [hw], by rw [hw], by rw [hw]; simp⟩, by rw [ht]; exact hP, va_K.moved hW.alike hK, hD⟩, hS.F ht⟩) hS.2.2 dL_share_26
set_option maxHeartbeats 4000000 in
set_option maxRecDepth 100000 in
/-- the law's fails -/
theorem c_L_fails (l : Launch) (hl9 : l.stackTraces = false) (dC : Nat → ClassId) (dI : Nat → Nat → Nat) (c0 cL : ClassId) (o : Nat) (g : Nat → Int64) (a : Nat → Nat) (sz : Nat) (uu : xS) (hok : xok uu) (k : Int32) (w : Int32) (x : Int32) : Met l yL_fails wsL_fails ({ frames := 8, cells := 2, slots := 12, locals := 128 }) (va_Pc [.ref (a 0), .int k, .int w, .int x, .ref o] (PW dC dI c0 cL a o uu g sz)) (va_Qi (fun (r : Int32) (v9 : xS × (Nat → Int64)) => r = (f_fails uu k w x).1 ∧ v9.1 = (f_fails uu k w x).2.2 ∧ v9.2 = if (f_fails uu k w x).1 = 0 then vp_updL g 0 (f_fails uu k w x).2.1 else g) (fun (v9 : xS × (Nat → Int64)) t => va_P (dC, dI) vwCl (WO c0 cL a o v9.1 v9.2) t.heap ∧ va_K (dC, dI) vwCl [(c0, .int), (cL, .long)] t ∧ va_D (va_A (WO c0 cL a o uu g) sz) (WO c0 cL a o v9.1 v9.2)) (va_A (WO c0 cL a o uu g) sz)) 2 12 (va_A (WO c0 cL a o uu g) sz) := by
  obtain ⟨n, wk, sd, bt, lt, lo, rk, ad, vl, bg, cm, sp, gd, rf, ct, rd, sm, js, sn, wl⟩ := uu
  obtain ⟨hn, hct⟩ := hok
  refine va_MetW (cc := cL_fails) (maxL := 6) (ret := (some .int)) (hh := [(0, 12, 15, 13), (0, 12, 19, 15)]) (by decide) rfl ?_
  intro p e s m args below meth c s₁ B hml hv
  obtain ⟨rfl, hsz, hP, hK, hD0, hE⟩ := hv
  have hx := B.exec
  have hb := B.bytes
  have hr := B.returns
  have hown : s.vm.findClass RL = some m.cls := findClass_of_methodNamed B.named
  have hlocks := B.notSynchronized
  have hTab : c.exceptionTable.toList = tableOf [(0, 12, 15, 13), (0, 12, 19, 15)] := vx_table (x := yL_fails) B (hE.t m_265 rfl)
  subst hsz
  have hD := hD0.self (sz := s.heap.size)
  generalize hAe : va_A (WO c0 cL a o (n, wk, sd, bt, lt, lo, rk, ad, vl, bg, cm, sp, gd, rf, ct, rd, sm, js, sn, wl) g) s.heap.size = A at hD hE ⊢
  have hts := hE.ts (args := ([.ref (a 0), .int k, .int w, .int x, .ref o] : List Value).toArray)
  have hA : ∀ q : Nat, s.heap.size ≤ q → A q := fun q h => by rw [← hAe]; exact Or.inr h
  have hS : va_S A s.heap s.heap [] := va_S.rf
  have hP : va_P (dC, dI) vwCl (WO c0 cL a o (n, wk, sd, bt, lt, lo, rk, ad, vl, bg, cm, sp, gd, rf, ct, rd, sm, js, sn, wl) g) s.heap := hP
  have hl := lv_entry ([.ref (a 0), .int k, .int w, .int x, .ref o]) (n := 6) (Nat.le_of_ble_eq_true rfl)
  rw [lg_entry_eq]
  generalize (lg_sl ([.ref (a 0), .int k, .int w, .int x, .ref o]) ++ List.replicate (6 - (lg_sl ([.ref (a 0), .int k, .int w, .int x, .ref o])).length) Slot.unset).toArray = ls at hl ⊢
  have hl : lv_has ls 6 [(0, .ref (a 0)), (1, .int k), (2, .int w), (3, .int x), (4, .ref o)] := hl
  refine lv_aload hx hb dL_fails_0 (lv_at hl 4 rfl) ?_
  refine lv_iconst (v := 0) hx hb dL_fails_2 (by decide) ?_
  refine lv_aload_n hx hb dL_fails_3 rfl (lv_at hl 0 rfl) ?_
  refine lv_iload_n hx hb dL_fails_4 rfl (lv_at hl 1 rfl) ?_
  refine lv_iload_n hx hb dL_fails_5 rfl (lv_at hl 2 rfl) ?_
  refine lv_iload_n hx hb dL_fails_6 rfl (lv_at hl 3 rfl) ?_
  have hPx := hP.sub (ws' := wX c0 a (n, wk, sd, bt, lt, lo, rk, ad, vl, bg, cm, sp, gd, rf, ct, rd, sm, js, sn, wl)) [1, 2, 3, 4, 5, 6, 7, 8, 9, 10, 11, 12, 13, 14] rfl
  have hDx := hD.sub (ws' := wX c0 a (n, wk, sd, bt, lt, lo, rk, ad, vl, bg, cm, sp, gd, rf, ct, rd, sm, js, sn, wl)) [1, 2, 3, 4, 5, 6, 7, 8, 9, 10, 11, 12, 13, 14] (by decide) rfl
  have hKx := hK.sub (tys' := [(c0, .int)]) [0] rfl
  have hPo := hP.sub (ws' := [(o, .inl (cL, 1, .inr (.inl g)))]) [0] rfl
  have hFx := fre hDx hS hA
  refine vx_calli (vx_runV (As := [.int k, .int w, .int x]) (rest := [.int 0, .ref o]) ⟨hx, hb, hml, hown, hts⟩ (c_X0_fails l hl9 dC dI c0 a _ n wk sd bt lt lo rk ad vl bg cm sp gd rf ct rd sm js sn wl k w x hn) (cwV 3 hts gL_fails_X0_fails rfl rfl rfl (by decide +kernel) ⟨(Nat.le_of_ble_eq_true rfl), (Nat.le_of_ble_eq_true rfl)⟩) ⟨PX_blind, va_recv hKx hPx (ci := 0) (q0 := 0) rfl rfl, PX_give hPx hKx hDx hE hS hFx⟩ rfl rfl hl.1 rfl (lv_room (Nat.le_of_ble_eq_true rfl)) dL_fails_7 ⟨by decide, by decide⟩) hS (fun q _ h => hFx q h) hFx (fun q _ h => hFx q h) (fun E ce q9 u t H1 locs ht hvm hw hB hz1 hk1 hS hce hcv hcl => ?_) (fun r u t H1 locs ht hvm hw hB hz1 hk1 hS => ?_)
  · skip
    obtain ⟨hEE, hB⟩ := hB
    obtain ⟨hP1, -, hD1⟩ := hB
    rw [ht] at hP1
    obtain ⟨hPo, hD⟩ := jnL (Q := [(o, .inl (cL, 1, .inr (.inl g)))]) (P := wX c0 a (n, wk, sd, bt, lt, lo, rk, ad, vl, bg, cm, sp, gd, rf, ct, rd, sm, js, sn, wl)) hPo hD hk1 hD1 hFx
    have hP := hPo.app hP1
    rcases hEE with ⟨rfl, hf9⟩ | ⟨rfl, hf9⟩
    · skip
      have hP : va_P (dC, dI) vwCl (WO c0 cL a o (n, wk, sd, bt, lt, lo, rk, ad, vl, bg, cm, sp, gd, rf, ct, rd, sm, js, sn, wl) g) H1 := hP
      have hD : va_D A (WO c0 cL a o (n, wk, sd, bt, lt, lo, rk, ad, vl, bg, cm, sp, gd, rf, ct, rd, sm, js, sn, wl) g) := hD
      refine vx_catch (own := RL) (name := "java/lang/IndexOutOfBoundsException") (E := "java/lang/IndexOutOfBoundsException") hown [] ⟨0, 12, 15, 13⟩ [⟨0, 12, 19, 15⟩] (by rw [hTab]; rfl) (fun z hz => nomatch hz) (by decide) (by decide) (hE.t m_168 rfl) (hE.t m_180 rfl) hce hcv hcl ?_
      refine lv_astore (lv' := [(5, .ref q9), (0, .ref (a 0)), (1, .int k), (2, .int w), (3, .int x), (4, .ref o)]) hx hb dL_fails_15 hl (by decide) rfl (fun ls hl => ?_)
      refine lv_iconst (v := 1) hx hb dL_fails_17 (by decide) ?_
      exact W.iret (v := 1) hx hb hr (fun t ht hW => ⟨⟨1, ((n, wk, sd, bt, lt, lo, rk, ad, vl, bg, cm, sp, gd, rf, ct, rd, sm, js, sn, wl), g), rfl, ⟨by rw [hf9], by rw [hf9], by rw [hf9]; simp⟩, by rw [ht]; exact hP, va_K.moved hW.alike hK, hD⟩, hS.F ht⟩) hS.2.2 dL_fails_18
    · skip
      have hP : va_P (dC, dI) vwCl (WO c0 cL a o (n, wk, sd, bt, lt, lo, rk, ad, vl, bg, cm, sp, gd, rf, ct, rd, sm, js, sn, wl) g) H1 := hP
      have hD : va_D A (WO c0 cL a o (n, wk, sd, bt, lt, lo, rk, ad, vl, bg, cm, sp, gd, rf, ct, rd, sm, js, sn, wl) g) := hD
      refine vx_catch (own := RL) (name := "java/lang/IllegalArgumentException") (E := "java/lang/IllegalArgumentException") hown [⟨0, 12, 15, 13⟩] ⟨0, 12, 19, 15⟩ [] (by rw [hTab]; rfl) (by
          intro z hz
          rcases List.mem_cons.mp hz with rfl | hz
          · exact Or.inr ⟨by decide, "java/lang/IndexOutOfBoundsException", hts (.classLink RL 13 "java/lang/IndexOutOfBoundsException") (by decide +kernel), hE.nc ("java/lang/IllegalArgumentException", "java/lang/IndexOutOfBoundsException") (by decide +kernel)⟩
          cases hz) (by decide) (by decide) (hE.t m_169 rfl) (hE.t m_248 rfl) hce hcv hcl ?_
      refine lv_astore (lv' := [(5, .ref q9), (0, .ref (a 0)), (1, .int k), (2, .int w), (3, .int x), (4, .ref o)]) hx hb dL_fails_19 hl (by decide) rfl (fun ls hl => ?_)
      refine lv_iconst (v := 2) hx hb dL_fails_21 (by decide) ?_
      exact W.iret (v := 2) hx hb hr (fun t ht hW => ⟨⟨2, ((n, wk, sd, bt, lt, lo, rk, ad, vl, bg, cm, sp, gd, rf, ct, rd, sm, js, sn, wl), g), rfl, ⟨by rw [hf9], by rw [hf9], by rw [hf9]; simp⟩, by rw [ht]; exact hP, va_K.moved hW.alike hK, hD⟩, hS.F ht⟩) hS.2.2 dL_fails_22
  · skip
    obtain ⟨hP1, -, hD1⟩ := hB
    rw [ht] at hP1
    obtain ⟨hPo, hD⟩ := jnL (Q := [(o, .inl (cL, 1, .inr (.inl g)))]) (P := wX c0 a (n, wk, sd, bt, lt, lo, rk, ad, vl, bg, cm, sp, gd, rf, ct, rd, sm, js, sn, wl)) hPo hD hk1 hD1 hFx
    have hP := hPo.app hP1
    have hP : va_P (dC, dI) vwCl (WO c0 cL a o u g) H1 := hP
    have hD : va_D A (WO c0 cL a o u g) := hD
    generalize H1 = H at hP hS ⊢
    refine lv_i2l hx hb dL_fails_10 (v := r.toInt64) rfl ?_
    refine va_last hx hb hK hP hD hS 0 1 rfl rfl in01 dL_fails_11 (fun H locs hP hD hS => ?_)
    rw [sb_cl0] at hP hD
    have hP : va_P (dC, dI) vwCl (WO c0 cL a o u (vp_updL g 0 r.toInt64)) H := hP
    have hD : va_D A (WO c0 cL a o u (vp_updL g 0 r.toInt64)) := hD
    refine lv_goto (tgt := 23) hx hb dL_fails_12 (by decide) ?_
    refine lv_iconst (v := 0) hx hb dL_fails_23 (by decide) ?_
    exact W.iret (v := 0) hx hb hr (fun t ht hW => ⟨⟨0, (u, vp_updL g 0 r.toInt64), rfl, ⟨by rw [hw], by rw [hw], by rw [hw]; simp⟩, by rw [ht]; exact hP, va_K.moved hW.alike hK, hD⟩, hS.F ht⟩) hS.2.2 dL_fails_24
set_option maxHeartbeats 4000000 in
set_option maxRecDepth 100000 in
/-- the law's act -/
theorem c_L_act (l : Launch) (hl9 : l.stackTraces = false) (dC : Nat → ClassId) (dI : Nat → Nat → Nat) (c0 cL : ClassId) (o : Nat) (g : Nat → Int64) (a : Nat → Nat) (sz : Nat) (uu : xS) (hok : xok uu) (k : Int32) (v : Int32) : Met l yL_act wsL_act ({ frames := 8, cells := 1, slots := 6, locals := 128 }) (va_Pc [.ref (a 0), .int k, .int v, .ref o] (PW dC dI c0 cL a o uu g sz)) (va_Qi (fun (r : Int32) (v9 : xS × (Nat → Int64)) => r = (f_act uu k v).1 ∧ v9.1 = (f_act uu k v).2.2 ∧ v9.2 = if (f_act uu k v).1 = 0 then vp_updL g 0 (f_act uu k v).2.1 else g) (fun (v9 : xS × (Nat → Int64)) t => va_P (dC, dI) vwCl (WO c0 cL a o v9.1 v9.2) t.heap ∧ va_K (dC, dI) vwCl [(c0, .int), (cL, .long)] t ∧ va_D (va_A (WO c0 cL a o uu g) sz) (WO c0 cL a o v9.1 v9.2)) (va_A (WO c0 cL a o uu g) sz)) 1 6 (va_A (WO c0 cL a o uu g) sz) := by
  obtain ⟨n, wk, sd, bt, lt, lo, rk, ad, vl, bg, cm, sp, gd, rf, ct, rd, sm, js, sn, wl⟩ := uu
  obtain ⟨hn, hct⟩ := hok
  refine va_MetW (cc := cL_act) (maxL := 5) (ret := (some .int)) (hh := [(0, 10, 13, 13), (0, 10, 17, 25)]) (by decide) rfl ?_
  intro p e s m args below meth c s₁ B hml hv
  obtain ⟨rfl, hsz, hP, hK, hD0, hE⟩ := hv
  have hx := B.exec
  have hb := B.bytes
  have hr := B.returns
  have hown : s.vm.findClass RL = some m.cls := findClass_of_methodNamed B.named
  have hlocks := B.notSynchronized
  have hTab : c.exceptionTable.toList = tableOf [(0, 10, 13, 13), (0, 10, 17, 25)] := vx_table (x := yL_act) B (hE.t m_274 rfl)
  subst hsz
  have hD := hD0.self (sz := s.heap.size)
  generalize hAe : va_A (WO c0 cL a o (n, wk, sd, bt, lt, lo, rk, ad, vl, bg, cm, sp, gd, rf, ct, rd, sm, js, sn, wl) g) s.heap.size = A at hD hE ⊢
  have hts := hE.ts (args := ([.ref (a 0), .int k, .int v, .ref o] : List Value).toArray)
  have hA : ∀ q : Nat, s.heap.size ≤ q → A q := fun q h => by rw [← hAe]; exact Or.inr h
  have hS : va_S A s.heap s.heap [] := va_S.rf
  have hP : va_P (dC, dI) vwCl (WO c0 cL a o (n, wk, sd, bt, lt, lo, rk, ad, vl, bg, cm, sp, gd, rf, ct, rd, sm, js, sn, wl) g) s.heap := hP
  have hl := lv_entry ([.ref (a 0), .int k, .int v, .ref o]) (n := 5) (Nat.le_of_ble_eq_true rfl)
  rw [lg_entry_eq]
  generalize (lg_sl ([.ref (a 0), .int k, .int v, .ref o]) ++ List.replicate (5 - (lg_sl ([.ref (a 0), .int k, .int v, .ref o])).length) Slot.unset).toArray = ls at hl ⊢
  have hl : lv_has ls 5 [(0, .ref (a 0)), (1, .int k), (2, .int v), (3, .ref o)] := hl
  refine lv_aload_n hx hb dL_act_0 rfl (lv_at hl 3 rfl) ?_
  refine lv_iconst (v := 0) hx hb dL_act_1 (by decide) ?_
  refine lv_aload_n hx hb dL_act_2 rfl (lv_at hl 0 rfl) ?_
  refine lv_iload_n hx hb dL_act_3 rfl (lv_at hl 1 rfl) ?_
  refine lv_iload_n hx hb dL_act_4 rfl (lv_at hl 2 rfl) ?_
  have hPx := hP.sub (ws' := wX c0 a (n, wk, sd, bt, lt, lo, rk, ad, vl, bg, cm, sp, gd, rf, ct, rd, sm, js, sn, wl)) [1, 2, 3, 4, 5, 6, 7, 8, 9, 10, 11, 12, 13, 14] rfl
  have hDx := hD.sub (ws' := wX c0 a (n, wk, sd, bt, lt, lo, rk, ad, vl, bg, cm, sp, gd, rf, ct, rd, sm, js, sn, wl)) [1, 2, 3, 4, 5, 6, 7, 8, 9, 10, 11, 12, 13, 14] (by decide) rfl
  have hKx := hK.sub (tys' := [(c0, .int)]) [0] rfl
  have hPo := hP.sub (ws' := [(o, .inl (cL, 1, .inr (.inl g)))]) [0] rfl
  have hFx := fre hDx hS hA
  refine vx_calli (vx_runV (As := [.int k, .int v]) (rest := [.int 0, .ref o]) ⟨hx, hb, hml, hown, hts⟩ (c_X0_act l hl9 dC dI c0 a _ n wk sd bt lt lo rk ad vl bg cm sp gd rf ct rd sm js sn wl k v hn hct) (cwV 2 hts gL_act_X0_act rfl rfl rfl (by decide +kernel) ⟨(Nat.le_of_ble_eq_true rfl), (Nat.le_of_ble_eq_true rfl)⟩) ⟨PX_blind, va_recv hKx hPx (ci := 0) (q0 := 0) rfl rfl, PX_give hPx hKx hDx hE hS hFx⟩ rfl rfl hl.1 rfl (lv_room (Nat.le_of_ble_eq_true rfl)) dL_act_5 ⟨by decide, by decide⟩) hS (fun q _ h => hFx q h) hFx (fun q _ h => hFx q h) (fun E ce q9 u t H1 locs ht hvm hw hB hz1 hk1 hS hce hcv hcl => ?_) (fun r u t H1 locs ht hvm hw hB hz1 hk1 hS => ?_)
  · skip
    obtain ⟨hEE, hB⟩ := hB
    obtain ⟨hP1, -, hD1⟩ := hB
    rw [ht] at hP1
    obtain ⟨hPo, hD⟩ := jnL (Q := [(o, .inl (cL, 1, .inr (.inl g)))]) (P := wX c0 a (n, wk, sd, bt, lt, lo, rk, ad, vl, bg, cm, sp, gd, rf, ct, rd, sm, js, sn, wl)) hPo hD hk1 hD1 hFx
    have hP := hPo.app hP1
    rcases hEE with ⟨rfl, hf9⟩ | ⟨rfl, hf9⟩
    · skip
      have hP : va_P (dC, dI) vwCl (WO c0 cL a o (n, wk, sd, bt, lt, lo, rk, ad, vl, bg, cm, sp, gd, rf, ct, rd, sm, js, sn, wl) g) H1 := hP
      have hD : va_D A (WO c0 cL a o (n, wk, sd, bt, lt, lo, rk, ad, vl, bg, cm, sp, gd, rf, ct, rd, sm, js, sn, wl) g) := hD
      refine vx_catch (own := RL) (name := "java/lang/IndexOutOfBoundsException") (E := "java/lang/IndexOutOfBoundsException") hown [] ⟨0, 10, 13, 13⟩ [⟨0, 10, 17, 25⟩] (by rw [hTab]; rfl) (fun z hz => nomatch hz) (by decide) (by decide) (hE.t m_168 rfl) (hE.t m_180 rfl) hce hcv hcl ?_
      refine lv_astore (lv' := [(4, .ref q9), (0, .ref (a 0)), (1, .int k), (2, .int v), (3, .ref o)]) hx hb dL_act_13 hl (by decide) rfl (fun ls hl => ?_)
      refine lv_iconst (v := 1) hx hb dL_act_15 (by decide) ?_
      exact W.iret (v := 1) hx hb hr (fun t ht hW => ⟨⟨1, ((n, wk, sd, bt, lt, lo, rk, ad, vl, bg, cm, sp, gd, rf, ct, rd, sm, js, sn, wl), g), rfl, ⟨by rw [hf9], by rw [hf9], by rw [hf9]; simp⟩, by rw [ht]; exact hP, va_K.moved hW.alike hK, hD⟩, hS.F ht⟩) hS.2.2 dL_act_16
    · skip
      have hP : va_P (dC, dI) vwCl (WO c0 cL a o (n, wk, sd, bt, lt, lo, rk, ad, vl, bg, cm, sp, gd, rf, ct, rd, sm, js, sn, wl) g) H1 := hP
      have hD : va_D A (WO c0 cL a o (n, wk, sd, bt, lt, lo, rk, ad, vl, bg, cm, sp, gd, rf, ct, rd, sm, js, sn, wl) g) := hD
      refine vx_catch (own := RL) (name := "java/lang/IllegalStateException") (E := "java/lang/IllegalStateException") hown [⟨0, 10, 13, 13⟩] ⟨0, 10, 17, 25⟩ [] (by rw [hTab]; rfl) (by
          intro z hz
          rcases List.mem_cons.mp hz with rfl | hz
          · exact Or.inr ⟨by decide, "java/lang/IndexOutOfBoundsException", hts (.classLink RL 13 "java/lang/IndexOutOfBoundsException") (by decide +kernel), hE.nc ("java/lang/IllegalStateException", "java/lang/IndexOutOfBoundsException") (by decide +kernel)⟩
          cases hz) (by decide) (by decide) (hE.t m_275 rfl) (hE.t m_283 rfl) hce hcv hcl ?_
      refine lv_astore (lv' := [(4, .ref q9), (0, .ref (a 0)), (1, .int k), (2, .int v), (3, .ref o)]) hx hb dL_act_17 hl (by decide) rfl (fun ls hl => ?_)
      refine lv_iconst (v := 2) hx hb dL_act_19 (by decide) ?_
      exact W.iret (v := 2) hx hb hr (fun t ht hW => ⟨⟨2, ((n, wk, sd, bt, lt, lo, rk, ad, vl, bg, cm, sp, gd, rf, ct, rd, sm, js, sn, wl), g), rfl, ⟨by rw [hf9], by rw [hf9], by rw [hf9]; simp⟩, by rw [ht]; exact hP, va_K.moved hW.alike hK, hD⟩, hS.F ht⟩) hS.2.2 dL_act_20
  · skip
    obtain ⟨hP1, -, hD1⟩ := hB
    rw [ht] at hP1
    obtain ⟨hPo, hD⟩ := jnL (Q := [(o, .inl (cL, 1, .inr (.inl g)))]) (P := wX c0 a (n, wk, sd, bt, lt, lo, rk, ad, vl, bg, cm, sp, gd, rf, ct, rd, sm, js, sn, wl)) hPo hD hk1 hD1 hFx
    have hP := hPo.app hP1
    have hP : va_P (dC, dI) vwCl (WO c0 cL a o u g) H1 := hP
    have hD : va_D A (WO c0 cL a o u g) := hD
    generalize H1 = H at hP hS ⊢
    refine lv_i2l hx hb dL_act_8 (v := r.toInt64) rfl ?_
    refine va_last hx hb hK hP hD hS 0 1 rfl rfl in01 dL_act_9 (fun H locs hP hD hS => ?_)
    rw [sb_cl0] at hP hD
    have hP : va_P (dC, dI) vwCl (WO c0 cL a o u (vp_updL g 0 r.toInt64)) H := hP
    have hD : va_D A (WO c0 cL a o u (vp_updL g 0 r.toInt64)) := hD
    refine lv_goto (tgt := 21) hx hb dL_act_10 (by decide) ?_
    refine lv_iconst (v := 0) hx hb dL_act_21 (by decide) ?_
    exact W.iret (v := 0) hx hb hr (fun t ht hW => ⟨⟨0, (u, vp_updL g 0 r.toInt64), rfl, ⟨by rw [hw], by rw [hw], by rw [hw]; simp⟩, by rw [ht]; exact hP, va_K.moved hW.alike hK, hD⟩, hS.F ht⟩) hS.2.2 dL_act_22
set_option maxHeartbeats 4000000 in
set_option maxRecDepth 100000 in
/-- the law's stop -/
theorem c_L_stop (l : Launch) (hl9 : l.stackTraces = false) (dC : Nat → ClassId) (dI : Nat → Nat → Nat) (c0 cL : ClassId) (o : Nat) (g : Nat → Int64) (a : Nat → Nat) (sz : Nat) (uu : xS) (hok : xok uu) (k : Int32) : Met l yL_stop wsL_stop ({ frames := 8, cells := 1, slots := 6, locals := 128 }) (va_Pc [.ref (a 0), .int k, .ref o] (PW dC dI c0 cL a o uu g sz)) (va_Qi (fun (r : Int32) (v9 : xS × (Nat → Int64)) => r = (f_stop uu k).1 ∧ v9.1 = (f_stop uu k).2.2 ∧ v9.2 = if (f_stop uu k).1 = 0 then vp_updL g 0 (f_stop uu k).2.1 else g) (fun (v9 : xS × (Nat → Int64)) t => va_P (dC, dI) vwCl (WO c0 cL a o v9.1 v9.2) t.heap ∧ va_K (dC, dI) vwCl [(c0, .int), (cL, .long)] t ∧ va_D (va_A (WO c0 cL a o uu g) sz) (WO c0 cL a o v9.1 v9.2)) (va_A (WO c0 cL a o uu g) sz)) 1 6 (va_A (WO c0 cL a o uu g) sz) := by
  obtain ⟨n, wk, sd, bt, lt, lo, rk, ad, vl, bg, cm, sp, gd, rf, ct, rd, sm, js, sn, wl⟩ := uu
  obtain ⟨hn, hct⟩ := hok
  refine va_MetW (cc := cL_stop) (maxL := 4) (ret := (some .int)) (hh := [(0, 9, 12, 13)]) (by decide) rfl ?_
  intro p e s m args below meth c s₁ B hml hv
  obtain ⟨rfl, hsz, hP, hK, hD0, hE⟩ := hv
  have hx := B.exec
  have hb := B.bytes
  have hr := B.returns
  have hown : s.vm.findClass RL = some m.cls := findClass_of_methodNamed B.named
  have hlocks := B.notSynchronized
  have hTab : c.exceptionTable.toList = tableOf [(0, 9, 12, 13)] := vx_table (x := yL_stop) B (hE.t m_303 rfl)
  subst hsz
  have hD := hD0.self (sz := s.heap.size)
  generalize hAe : va_A (WO c0 cL a o (n, wk, sd, bt, lt, lo, rk, ad, vl, bg, cm, sp, gd, rf, ct, rd, sm, js, sn, wl) g) s.heap.size = A at hD hE ⊢
  have hts := hE.ts (args := ([.ref (a 0), .int k, .ref o] : List Value).toArray)
  have hA : ∀ q : Nat, s.heap.size ≤ q → A q := fun q h => by rw [← hAe]; exact Or.inr h
  have hS : va_S A s.heap s.heap [] := va_S.rf
  have hP : va_P (dC, dI) vwCl (WO c0 cL a o (n, wk, sd, bt, lt, lo, rk, ad, vl, bg, cm, sp, gd, rf, ct, rd, sm, js, sn, wl) g) s.heap := hP
  have hl := lv_entry ([.ref (a 0), .int k, .ref o]) (n := 4) (Nat.le_of_ble_eq_true rfl)
  rw [lg_entry_eq]
  generalize (lg_sl ([.ref (a 0), .int k, .ref o]) ++ List.replicate (4 - (lg_sl ([.ref (a 0), .int k, .ref o])).length) Slot.unset).toArray = ls at hl ⊢
  have hl : lv_has ls 4 [(0, .ref (a 0)), (1, .int k), (2, .ref o)] := hl
  refine lv_aload_n hx hb dL_stop_0 rfl (lv_at hl 2 rfl) ?_
  refine lv_iconst (v := 0) hx hb dL_stop_1 (by decide) ?_
  refine lv_aload_n hx hb dL_stop_2 rfl (lv_at hl 0 rfl) ?_
  refine lv_iload_n hx hb dL_stop_3 rfl (lv_at hl 1 rfl) ?_
  have hPx := hP.sub (ws' := wX c0 a (n, wk, sd, bt, lt, lo, rk, ad, vl, bg, cm, sp, gd, rf, ct, rd, sm, js, sn, wl)) [1, 2, 3, 4, 5, 6, 7, 8, 9, 10, 11, 12, 13, 14] rfl
  have hDx := hD.sub (ws' := wX c0 a (n, wk, sd, bt, lt, lo, rk, ad, vl, bg, cm, sp, gd, rf, ct, rd, sm, js, sn, wl)) [1, 2, 3, 4, 5, 6, 7, 8, 9, 10, 11, 12, 13, 14] (by decide) rfl
  have hKx := hK.sub (tys' := [(c0, .int)]) [0] rfl
  have hPo := hP.sub (ws' := [(o, .inl (cL, 1, .inr (.inl g)))]) [0] rfl
  have hFx := fre hDx hS hA
  refine vx_calli (vx_runV (As := [.int k]) (rest := [.int 0, .ref o]) ⟨hx, hb, hml, hown, hts⟩ (c_X0_stop l hl9 dC dI c0 a _ n wk sd bt lt lo rk ad vl bg cm sp gd rf ct rd sm js sn wl k hn) (cwV 1 hts gL_stop_X0_stop rfl rfl rfl (by decide +kernel) ⟨(Nat.le_of_ble_eq_true rfl), (Nat.le_of_ble_eq_true rfl)⟩) ⟨PX_blind, va_recv hKx hPx (ci := 0) (q0 := 0) rfl rfl, PX_give hPx hKx hDx hE hS hFx⟩ rfl rfl hl.1 rfl (lv_room (Nat.le_of_ble_eq_true rfl)) dL_stop_4 ⟨by decide, by decide⟩) hS (fun q _ h => hFx q h) hFx (fun q _ h => hFx q h) (fun E ce q9 u t H1 locs ht hvm hw hB hz1 hk1 hS hce hcv hcl => ?_) (fun r u t H1 locs ht hvm hw hB hz1 hk1 hS => ?_)
  · skip
    obtain ⟨hEE, hB⟩ := hB
    obtain ⟨hP1, -, hD1⟩ := hB
    rw [ht] at hP1
    obtain ⟨hPo, hD⟩ := jnL (Q := [(o, .inl (cL, 1, .inr (.inl g)))]) (P := wX c0 a (n, wk, sd, bt, lt, lo, rk, ad, vl, bg, cm, sp, gd, rf, ct, rd, sm, js, sn, wl)) hPo hD hk1 hD1 hFx
    have hP := hPo.app hP1
    obtain ⟨rfl, hf9⟩ := hEE
    have hP : va_P (dC, dI) vwCl (WO c0 cL a o (n, wk, sd, bt, lt, lo, rk, ad, vl, bg, cm, sp, gd, rf, ct, rd, sm, js, sn, wl) g) H1 := hP
    have hD : va_D A (WO c0 cL a o (n, wk, sd, bt, lt, lo, rk, ad, vl, bg, cm, sp, gd, rf, ct, rd, sm, js, sn, wl) g) := hD
    refine vx_catch (own := RL) (name := "java/lang/IndexOutOfBoundsException") (E := "java/lang/IndexOutOfBoundsException") hown [] ⟨0, 9, 12, 13⟩ [] (by rw [hTab]; rfl) (fun z hz => nomatch hz) (by decide) (by decide) (hE.t m_168 rfl) (hE.t m_180 rfl) hce hcv hcl ?_
    refine lv_astore_n (lv' := [(3, .ref q9), (0, .ref (a 0)), (1, .int k), (2, .ref o)]) hx hb dL_stop_12 rfl hl (by decide) rfl (fun ls hl => ?_)
    refine lv_iconst (v := 1) hx hb dL_stop_13 (by decide) ?_
    exact W.iret (v := 1) hx hb hr (fun t ht hW => ⟨⟨1, ((n, wk, sd, bt, lt, lo, rk, ad, vl, bg, cm, sp, gd, rf, ct, rd, sm, js, sn, wl), g), rfl, ⟨by rw [hf9], by rw [hf9], by rw [hf9]; simp⟩, by rw [ht]; exact hP, va_K.moved hW.alike hK, hD⟩, hS.F ht⟩) hS.2.2 dL_stop_14
  · skip
    obtain ⟨hP1, -, hD1⟩ := hB
    rw [ht] at hP1
    obtain ⟨hPo, hD⟩ := jnL (Q := [(o, .inl (cL, 1, .inr (.inl g)))]) (P := wX c0 a (n, wk, sd, bt, lt, lo, rk, ad, vl, bg, cm, sp, gd, rf, ct, rd, sm, js, sn, wl)) hPo hD hk1 hD1 hFx
    have hP := hPo.app hP1
    have hP : va_P (dC, dI) vwCl (WO c0 cL a o u g) H1 := hP
    have hD : va_D A (WO c0 cL a o u g) := hD
    generalize H1 = H at hP hS ⊢
    refine lv_i2l hx hb dL_stop_7 (v := r.toInt64) rfl ?_
    refine va_last hx hb hK hP hD hS 0 1 rfl rfl in01 dL_stop_8 (fun H locs hP hD hS => ?_)
    rw [sb_cl0] at hP hD
    have hP : va_P (dC, dI) vwCl (WO c0 cL a o u (vp_updL g 0 r.toInt64)) H := hP
    have hD : va_D A (WO c0 cL a o u (vp_updL g 0 r.toInt64)) := hD
    refine lv_goto (tgt := 15) hx hb dL_stop_9 (by decide) ?_
    refine lv_iconst (v := 0) hx hb dL_stop_15 (by decide) ?_
    exact W.iret (v := 0) hx hb hr (fun t ht hW => ⟨⟨0, (u, vp_updL g 0 r.toInt64), rfl, ⟨by rw [hw], by rw [hw], by rw [hw]; simp⟩, by rw [ht]; exact hP, va_K.moved hW.alike hK, hD⟩, hS.F ht⟩) hS.2.2 dL_stop_16
set_option maxHeartbeats 4000000 in
set_option maxRecDepth 100000 in
/-- the law's run -/
theorem c_L_run (l : Launch) (hl9 : l.stackTraces = false) (dC : Nat → ClassId) (dI : Nat → Nat → Nat) (c0 cL : ClassId) (o : Nat) (g : Nat → Int64) (a : Nat → Nat) (sz : Nat) (uu : xS) (hok : xok uu) (w : Int32) (y : Int32) : Met l yL_run wsL_run ({ frames := 8, cells := 1, slots := 6, locals := 128 }) (va_Pc [.ref (a 0), .int w, .int y, .ref o] (PW dC dI c0 cL a o uu g sz)) (va_Qi (fun (r : Int32) (v9 : xS × (Nat → Int64)) => r = (f_run uu w y).1 ∧ v9.1 = (f_run uu w y).2.2 ∧ v9.2 = if (f_run uu w y).1 = 0 then vp_updL g 0 (f_run uu w y).2.1 else g) (fun (v9 : xS × (Nat → Int64)) t => va_P (dC, dI) vwCl (WO c0 cL a o v9.1 v9.2) t.heap ∧ va_K (dC, dI) vwCl [(c0, .int), (cL, .long)] t ∧ va_D (va_A (WO c0 cL a o uu g) sz) (WO c0 cL a o v9.1 v9.2)) (va_A (WO c0 cL a o uu g) sz)) 1 6 (va_A (WO c0 cL a o uu g) sz) := by
  obtain ⟨n, wk, sd, bt, lt, lo, rk, ad, vl, bg, cm, sp, gd, rf, ct, rd, sm, js, sn, wl⟩ := uu
  obtain ⟨hn, hct⟩ := hok
  refine va_MetW (cc := cL_run) (maxL := 5) (ret := (some .int)) (hh := [(0, 10, 13, 15)]) (by decide) rfl ?_
  intro p e s m args below meth c s₁ B hml hv
  obtain ⟨rfl, hsz, hP, hK, hD0, hE⟩ := hv
  have hx := B.exec
  have hb := B.bytes
  have hr := B.returns
  have hown : s.vm.findClass RL = some m.cls := findClass_of_methodNamed B.named
  have hlocks := B.notSynchronized
  have hTab : c.exceptionTable.toList = tableOf [(0, 10, 13, 15)] := vx_table (x := yL_run) B (hE.t m_310 rfl)
  subst hsz
  have hD := hD0.self (sz := s.heap.size)
  generalize hAe : va_A (WO c0 cL a o (n, wk, sd, bt, lt, lo, rk, ad, vl, bg, cm, sp, gd, rf, ct, rd, sm, js, sn, wl) g) s.heap.size = A at hD hE ⊢
  have hts := hE.ts (args := ([.ref (a 0), .int w, .int y, .ref o] : List Value).toArray)
  have hA : ∀ q : Nat, s.heap.size ≤ q → A q := fun q h => by rw [← hAe]; exact Or.inr h
  have hS : va_S A s.heap s.heap [] := va_S.rf
  have hP : va_P (dC, dI) vwCl (WO c0 cL a o (n, wk, sd, bt, lt, lo, rk, ad, vl, bg, cm, sp, gd, rf, ct, rd, sm, js, sn, wl) g) s.heap := hP
  have hl := lv_entry ([.ref (a 0), .int w, .int y, .ref o]) (n := 5) (Nat.le_of_ble_eq_true rfl)
  rw [lg_entry_eq]
  generalize (lg_sl ([.ref (a 0), .int w, .int y, .ref o]) ++ List.replicate (5 - (lg_sl ([.ref (a 0), .int w, .int y, .ref o])).length) Slot.unset).toArray = ls at hl ⊢
  have hl : lv_has ls 5 [(0, .ref (a 0)), (1, .int w), (2, .int y), (3, .ref o)] := hl
  refine lv_aload_n hx hb dL_run_0 rfl (lv_at hl 3 rfl) ?_
  refine lv_iconst (v := 0) hx hb dL_run_1 (by decide) ?_
  refine lv_aload_n hx hb dL_run_2 rfl (lv_at hl 0 rfl) ?_
  refine lv_iload_n hx hb dL_run_3 rfl (lv_at hl 1 rfl) ?_
  refine lv_iload_n hx hb dL_run_4 rfl (lv_at hl 2 rfl) ?_
  have hPx := hP.sub (ws' := wX c0 a (n, wk, sd, bt, lt, lo, rk, ad, vl, bg, cm, sp, gd, rf, ct, rd, sm, js, sn, wl)) [1, 2, 3, 4, 5, 6, 7, 8, 9, 10, 11, 12, 13, 14] rfl
  have hDx := hD.sub (ws' := wX c0 a (n, wk, sd, bt, lt, lo, rk, ad, vl, bg, cm, sp, gd, rf, ct, rd, sm, js, sn, wl)) [1, 2, 3, 4, 5, 6, 7, 8, 9, 10, 11, 12, 13, 14] (by decide) rfl
  have hKx := hK.sub (tys' := [(c0, .int)]) [0] rfl
  have hPo := hP.sub (ws' := [(o, .inl (cL, 1, .inr (.inl g)))]) [0] rfl
  have hFx := fre hDx hS hA
  refine vx_calli (vx_runV (As := [.int w, .int y]) (rest := [.int 0, .ref o]) ⟨hx, hb, hml, hown, hts⟩ (c_X0_run l hl9 dC dI c0 a _ n wk sd bt lt lo rk ad vl bg cm sp gd rf ct rd sm js sn wl w y hn hct) (cwV 2 hts gL_run_X0_run rfl rfl rfl (by decide +kernel) ⟨(Nat.le_of_ble_eq_true rfl), (Nat.le_of_ble_eq_true rfl)⟩) ⟨PX_blind, va_recv hKx hPx (ci := 0) (q0 := 0) rfl rfl, PX_give hPx hKx hDx hE hS hFx⟩ rfl rfl hl.1 rfl (lv_room (Nat.le_of_ble_eq_true rfl)) dL_run_5 ⟨by decide, by decide⟩) hS (fun q _ h => hFx q h) hFx (fun q _ h => hFx q h) (fun E ce q9 u t H1 locs ht hvm hw hB hz1 hk1 hS hce hcv hcl => ?_) (fun r u t H1 locs ht hvm hw hB hz1 hk1 hS => ?_)
  · skip
    obtain ⟨hEE, hB⟩ := hB
    obtain ⟨hP1, -, hD1⟩ := hB
    rw [ht] at hP1
    obtain ⟨hPo, hD⟩ := jnL (Q := [(o, .inl (cL, 1, .inr (.inl g)))]) (P := wX c0 a (n, wk, sd, bt, lt, lo, rk, ad, vl, bg, cm, sp, gd, rf, ct, rd, sm, js, sn, wl)) hPo hD hk1 hD1 hFx
    have hP := hPo.app hP1
    obtain ⟨rfl, hf9⟩ := hEE
    have hP : va_P (dC, dI) vwCl (WO c0 cL a o (n, wk, sd, bt, lt, lo, rk, ad, vl, bg, cm, sp, gd, rf, ct, rd, sm, js, sn, wl) g) H1 := hP
    have hD : va_D A (WO c0 cL a o (n, wk, sd, bt, lt, lo, rk, ad, vl, bg, cm, sp, gd, rf, ct, rd, sm, js, sn, wl) g) := hD
    refine vx_catch (own := RL) (name := "java/lang/IllegalArgumentException") (E := "java/lang/IllegalArgumentException") hown [] ⟨0, 10, 13, 15⟩ [] (by rw [hTab]; rfl) (fun z hz => nomatch hz) (by decide) (by decide) (hE.t m_169 rfl) (hE.t m_248 rfl) hce hcv hcl ?_
    refine lv_astore (lv' := [(4, .ref q9), (0, .ref (a 0)), (1, .int w), (2, .int y), (3, .ref o)]) hx hb dL_run_13 hl (by decide) rfl (fun ls hl => ?_)
    refine lv_iconst (v := 1) hx hb dL_run_15 (by decide) ?_
    exact W.iret (v := 1) hx hb hr (fun t ht hW => ⟨⟨1, ((n, wk, sd, bt, lt, lo, rk, ad, vl, bg, cm, sp, gd, rf, ct, rd, sm, js, sn, wl), g), rfl, ⟨by rw [hf9], by rw [hf9], by rw [hf9]; simp⟩, by rw [ht]; exact hP, va_K.moved hW.alike hK, hD⟩, hS.F ht⟩) hS.2.2 dL_run_16
  · skip
    obtain ⟨hP1, -, hD1⟩ := hB
    rw [ht] at hP1
    obtain ⟨hPo, hD⟩ := jnL (Q := [(o, .inl (cL, 1, .inr (.inl g)))]) (P := wX c0 a (n, wk, sd, bt, lt, lo, rk, ad, vl, bg, cm, sp, gd, rf, ct, rd, sm, js, sn, wl)) hPo hD hk1 hD1 hFx
    have hP := hPo.app hP1
    have hP : va_P (dC, dI) vwCl (WO c0 cL a o u g) H1 := hP
    have hD : va_D A (WO c0 cL a o u g) := hD
    generalize H1 = H at hP hS ⊢
    refine lv_i2l hx hb dL_run_8 (v := r.toInt64) rfl ?_
    refine va_last hx hb hK hP hD hS 0 1 rfl rfl in01 dL_run_9 (fun H locs hP hD hS => ?_)
    rw [sb_cl0] at hP hD
    have hP : va_P (dC, dI) vwCl (WO c0 cL a o u (vp_updL g 0 r.toInt64)) H := hP
    have hD : va_D A (WO c0 cL a o u (vp_updL g 0 r.toInt64)) := hD
    refine lv_goto (tgt := 17) hx hb dL_run_10 (by decide) ?_
    refine lv_iconst (v := 0) hx hb dL_run_17 (by decide) ?_
    exact W.iret (v := 0) hx hb hr (fun t ht hW => ⟨⟨0, (u, vp_updL g 0 r.toInt64), rfl, ⟨by rw [hw], by rw [hw], by rw [hw]; simp⟩, by rw [ht]; exact hP, va_K.moved hW.alike hK, hD⟩, hS.F ht⟩) hS.2.2 dL_run_18
set_option maxHeartbeats 4000000 in
set_option maxRecDepth 100000 in
/-- the law's joined -/
theorem c_L_joined (l : Launch) (hl9 : l.stackTraces = false) (dC : Nat → ClassId) (dI : Nat → Nat → Nat) (c0 cL : ClassId) (o : Nat) (g : Nat → Int64) (a : Nat → Nat) (sz : Nat) (uu : xS) (hok : xok uu) : Met l yL_joined wsL_joined ({ frames := 8, cells := 1, slots := 6, locals := 128 }) (va_Pc [.ref (a 0), .ref o] (PW dC dI c0 cL a o uu g sz)) (va_Qi (fun (r : Int32) (v9 : xS × (Nat → Int64)) => r = (f_joined uu).1 ∧ v9.1 = (f_joined uu).2.2 ∧ v9.2 = if (f_joined uu).1 = 0 then vp_updL g 0 (f_joined uu).2.1 else g) (fun (v9 : xS × (Nat → Int64)) t => va_P (dC, dI) vwCl (WO c0 cL a o v9.1 v9.2) t.heap ∧ va_K (dC, dI) vwCl [(c0, .int), (cL, .long)] t ∧ va_D (va_A (WO c0 cL a o uu g) sz) (WO c0 cL a o v9.1 v9.2)) (va_A (WO c0 cL a o uu g) sz)) 1 6 (va_A (WO c0 cL a o uu g) sz) := by
  obtain ⟨n, wk, sd, bt, lt, lo, rk, ad, vl, bg, cm, sp, gd, rf, ct, rd, sm, js, sn, wl⟩ := uu
  obtain ⟨hn, hct⟩ := hok
  refine va_MetW (cc := cL_joined) (maxL := 3) (ret := (some .int)) (hh := [(0, 7, 10, 25)]) (by decide) rfl ?_
  intro p e s m args below meth c s₁ B hml hv
  obtain ⟨rfl, hsz, hP, hK, hD0, hE⟩ := hv
  have hx := B.exec
  have hb := B.bytes
  have hr := B.returns
  have hown : s.vm.findClass RL = some m.cls := findClass_of_methodNamed B.named
  have hlocks := B.notSynchronized
  have hTab : c.exceptionTable.toList = tableOf [(0, 7, 10, 25)] := vx_table (x := yL_joined) B (hE.t m_357 rfl)
  subst hsz
  have hD := hD0.self (sz := s.heap.size)
  generalize hAe : va_A (WO c0 cL a o (n, wk, sd, bt, lt, lo, rk, ad, vl, bg, cm, sp, gd, rf, ct, rd, sm, js, sn, wl) g) s.heap.size = A at hD hE ⊢
  have hts := hE.ts (args := ([.ref (a 0), .ref o] : List Value).toArray)
  have hA : ∀ q : Nat, s.heap.size ≤ q → A q := fun q h => by rw [← hAe]; exact Or.inr h
  have hS : va_S A s.heap s.heap [] := va_S.rf
  have hP : va_P (dC, dI) vwCl (WO c0 cL a o (n, wk, sd, bt, lt, lo, rk, ad, vl, bg, cm, sp, gd, rf, ct, rd, sm, js, sn, wl) g) s.heap := hP
  have hl := lv_entry ([.ref (a 0), .ref o]) (n := 3) (Nat.le_of_ble_eq_true rfl)
  rw [lg_entry_eq]
  generalize (lg_sl ([.ref (a 0), .ref o]) ++ List.replicate (3 - (lg_sl ([.ref (a 0), .ref o])).length) Slot.unset).toArray = ls at hl ⊢
  have hl : lv_has ls 3 [(0, .ref (a 0)), (1, .ref o)] := hl
  refine lv_aload_n hx hb dL_joined_0 rfl (lv_at hl 1 rfl) ?_
  refine lv_iconst (v := 0) hx hb dL_joined_1 (by decide) ?_
  refine lv_aload_n hx hb dL_joined_2 rfl (lv_at hl 0 rfl) ?_
  have hPx := hP.sub (ws' := wX c0 a (n, wk, sd, bt, lt, lo, rk, ad, vl, bg, cm, sp, gd, rf, ct, rd, sm, js, sn, wl)) [1, 2, 3, 4, 5, 6, 7, 8, 9, 10, 11, 12, 13, 14] rfl
  have hDx := hD.sub (ws' := wX c0 a (n, wk, sd, bt, lt, lo, rk, ad, vl, bg, cm, sp, gd, rf, ct, rd, sm, js, sn, wl)) [1, 2, 3, 4, 5, 6, 7, 8, 9, 10, 11, 12, 13, 14] (by decide) rfl
  have hKx := hK.sub (tys' := [(c0, .int)]) [0] rfl
  have hPo := hP.sub (ws' := [(o, .inl (cL, 1, .inr (.inl g)))]) [0] rfl
  have hFx := fre hDx hS hA
  refine vx_calll (vx_runV (As := []) (rest := [.int 0, .ref o]) ⟨hx, hb, hml, hown, hts⟩ (c_X0_joined l hl9 dC dI c0 a _ n wk sd bt lt lo rk ad vl bg cm sp gd rf ct rd sm js sn wl  hn) (cwV 0 hts gL_joined_X0_joined rfl rfl rfl (by decide +kernel) ⟨(Nat.le_of_ble_eq_true rfl), (Nat.le_of_ble_eq_true rfl)⟩) ⟨PX_blind, va_recv hKx hPx (ci := 0) (q0 := 0) rfl rfl, PX_give hPx hKx hDx hE hS hFx⟩ rfl rfl hl.1 rfl (lv_room (Nat.le_of_ble_eq_true rfl)) dL_joined_3 ⟨by decide, by decide⟩) hS (fun q _ h => hFx q h) hFx (fun q _ h => hFx q h) (fun E ce q9 u t H1 locs ht hvm hw hB hz1 hk1 hS hce hcv hcl => ?_) (fun r u t H1 locs ht hvm hw hB hz1 hk1 hS => ?_)
  · skip
    obtain ⟨hEE, hB⟩ := hB
    obtain ⟨hP1, -, hD1⟩ := hB
    rw [ht] at hP1
    obtain ⟨hPo, hD⟩ := jnL (Q := [(o, .inl (cL, 1, .inr (.inl g)))]) (P := wX c0 a (n, wk, sd, bt, lt, lo, rk, ad, vl, bg, cm, sp, gd, rf, ct, rd, sm, js, sn, wl)) hPo hD hk1 hD1 hFx
    have hP := hPo.app hP1
    obtain ⟨rfl, hf9⟩ := hEE
    have hP : va_P (dC, dI) vwCl (WO c0 cL a o (n, wk, sd, bt, lt, lo, rk, ad, vl, bg, cm, sp, gd, rf, ct, rd, sm, js, sn, wl) g) H1 := hP
    have hD : va_D A (WO c0 cL a o (n, wk, sd, bt, lt, lo, rk, ad, vl, bg, cm, sp, gd, rf, ct, rd, sm, js, sn, wl) g) := hD
    refine vx_catch (own := RL) (name := "java/lang/IllegalStateException") (E := "java/lang/IllegalStateException") hown [] ⟨0, 7, 10, 25⟩ [] (by rw [hTab]; rfl) (fun z hz => nomatch hz) (by decide) (by decide) (hE.t m_275 rfl) (hE.t m_283 rfl) hce hcv hcl ?_
    refine lv_astore_n (lv' := [(2, .ref q9), (0, .ref (a 0)), (1, .ref o)]) hx hb dL_joined_10 rfl hl (by decide) rfl (fun ls hl => ?_)
    refine lv_iconst (v := 1) hx hb dL_joined_11 (by decide) ?_
    exact W.iret (v := 1) hx hb hr (fun t ht hW => ⟨⟨1, ((n, wk, sd, bt, lt, lo, rk, ad, vl, bg, cm, sp, gd, rf, ct, rd, sm, js, sn, wl), g), rfl, ⟨by rw [hf9], by rw [hf9], by rw [hf9]; simp⟩, by rw [ht]; exact hP, va_K.moved hW.alike hK, hD⟩, hS.F ht⟩) hS.2.2 dL_joined_12
  · skip
    obtain ⟨hP1, -, hD1⟩ := hB
    rw [ht] at hP1
    obtain ⟨hPo, hD⟩ := jnL (Q := [(o, .inl (cL, 1, .inr (.inl g)))]) (P := wX c0 a (n, wk, sd, bt, lt, lo, rk, ad, vl, bg, cm, sp, gd, rf, ct, rd, sm, js, sn, wl)) hPo hD hk1 hD1 hFx
    have hP := hPo.app hP1
    have hP : va_P (dC, dI) vwCl (WO c0 cL a o u g) H1 := hP
    have hD : va_D A (WO c0 cL a o u g) := hD
    generalize H1 = H at hP hS ⊢
    refine va_last hx hb hK hP hD hS 0 1 rfl rfl in01 dL_joined_6 (fun H locs hP hD hS => ?_)
    rw [sb_cl0] at hP hD
    have hP : va_P (dC, dI) vwCl (WO c0 cL a o u (vp_updL g 0 r)) H := hP
    have hD : va_D A (WO c0 cL a o u (vp_updL g 0 r)) := hD
    refine lv_goto (tgt := 13) hx hb dL_joined_7 (by decide) ?_
    refine lv_iconst (v := 0) hx hb dL_joined_13 (by decide) ?_
    exact W.iret (v := 0) hx hb hr (fun t ht hW => ⟨⟨0, (u, vp_updL g 0 r), rfl, ⟨by rw [hw], by rw [hw], by rw [hw]; simp⟩, by rw [ht]; exact hP, va_K.moved hW.alike hK, hD⟩, hS.F ht⟩) hS.2.2 dL_joined_14
set_option maxHeartbeats 4000000 in
set_option maxRecDepth 100000 in
/-- the law's many -/
theorem c_L_many (l : Launch) (hl9 : l.stackTraces = false) (dC : Nat → ClassId) (dI : Nat → Nat → Nat) (c0 cL : ClassId) (o : Nat) (g : Nat → Int64) (a : Nat → Nat) (sz : Nat) (uu : xS) (hok : xok uu) : Met l yL_many wsL_many ({ frames := 8, cells := 1, slots := 6, locals := 128 }) (va_Pc [.ref (a 0), .ref o] (PW dC dI c0 cL a o uu g sz)) (va_Qi (fun (r : Int32) (v9 : xS × (Nat → Int64)) => r = (f_many uu).1 ∧ v9.1 = (f_many uu).2.2 ∧ v9.2 = if (f_many uu).1 = 0 then vp_updL g 0 (f_many uu).2.1 else g) (fun (v9 : xS × (Nat → Int64)) t => va_P (dC, dI) vwCl (WO c0 cL a o v9.1 v9.2) t.heap ∧ va_K (dC, dI) vwCl [(c0, .int), (cL, .long)] t ∧ va_D (va_A (WO c0 cL a o uu g) sz) (WO c0 cL a o v9.1 v9.2)) (va_A (WO c0 cL a o uu g) sz)) 1 6 (va_A (WO c0 cL a o uu g) sz) := by
  obtain ⟨n, wk, sd, bt, lt, lo, rk, ad, vl, bg, cm, sp, gd, rf, ct, rd, sm, js, sn, wl⟩ := uu
  obtain ⟨hn, hct⟩ := hok
  refine va_MetW (cc := cL_many) (maxL := 3) (ret := (some .int)) (hh := [(0, 8, 11, 25)]) (by decide) rfl ?_
  intro p e s m args below meth c s₁ B hml hv
  obtain ⟨rfl, hsz, hP, hK, hD0, hE⟩ := hv
  have hx := B.exec
  have hb := B.bytes
  have hr := B.returns
  have hown : s.vm.findClass RL = some m.cls := findClass_of_methodNamed B.named
  have hlocks := B.notSynchronized
  have hTab : c.exceptionTable.toList = tableOf [(0, 8, 11, 25)] := vx_table (x := yL_many) B (hE.t m_369 rfl)
  subst hsz
  have hD := hD0.self (sz := s.heap.size)
  generalize hAe : va_A (WO c0 cL a o (n, wk, sd, bt, lt, lo, rk, ad, vl, bg, cm, sp, gd, rf, ct, rd, sm, js, sn, wl) g) s.heap.size = A at hD hE ⊢
  have hts := hE.ts (args := ([.ref (a 0), .ref o] : List Value).toArray)
  have hA : ∀ q : Nat, s.heap.size ≤ q → A q := fun q h => by rw [← hAe]; exact Or.inr h
  have hS : va_S A s.heap s.heap [] := va_S.rf
  have hP : va_P (dC, dI) vwCl (WO c0 cL a o (n, wk, sd, bt, lt, lo, rk, ad, vl, bg, cm, sp, gd, rf, ct, rd, sm, js, sn, wl) g) s.heap := hP
  have hl := lv_entry ([.ref (a 0), .ref o]) (n := 3) (Nat.le_of_ble_eq_true rfl)
  rw [lg_entry_eq]
  generalize (lg_sl ([.ref (a 0), .ref o]) ++ List.replicate (3 - (lg_sl ([.ref (a 0), .ref o])).length) Slot.unset).toArray = ls at hl ⊢
  have hl : lv_has ls 3 [(0, .ref (a 0)), (1, .ref o)] := hl
  refine lv_aload_n hx hb dL_many_0 rfl (lv_at hl 1 rfl) ?_
  refine lv_iconst (v := 0) hx hb dL_many_1 (by decide) ?_
  refine lv_aload_n hx hb dL_many_2 rfl (lv_at hl 0 rfl) ?_
  have hPx := hP.sub (ws' := wX c0 a (n, wk, sd, bt, lt, lo, rk, ad, vl, bg, cm, sp, gd, rf, ct, rd, sm, js, sn, wl)) [1, 2, 3, 4, 5, 6, 7, 8, 9, 10, 11, 12, 13, 14] rfl
  have hDx := hD.sub (ws' := wX c0 a (n, wk, sd, bt, lt, lo, rk, ad, vl, bg, cm, sp, gd, rf, ct, rd, sm, js, sn, wl)) [1, 2, 3, 4, 5, 6, 7, 8, 9, 10, 11, 12, 13, 14] (by decide) rfl
  have hKx := hK.sub (tys' := [(c0, .int)]) [0] rfl
  have hPo := hP.sub (ws' := [(o, .inl (cL, 1, .inr (.inl g)))]) [0] rfl
  have hFx := fre hDx hS hA
  refine vx_calli (vx_runV (As := []) (rest := [.int 0, .ref o]) ⟨hx, hb, hml, hown, hts⟩ (c_X0_many l hl9 dC dI c0 a _ n wk sd bt lt lo rk ad vl bg cm sp gd rf ct rd sm js sn wl  hn) (cwV 0 hts gL_many_X0_many rfl rfl rfl (by decide +kernel) ⟨(Nat.le_of_ble_eq_true rfl), (Nat.le_of_ble_eq_true rfl)⟩) ⟨PX_blind, va_recv hKx hPx (ci := 0) (q0 := 0) rfl rfl, PX_give hPx hKx hDx hE hS hFx⟩ rfl rfl hl.1 rfl (lv_room (Nat.le_of_ble_eq_true rfl)) dL_many_3 ⟨by decide, by decide⟩) hS (fun q _ h => hFx q h) hFx (fun q _ h => hFx q h) (fun E ce q9 u t H1 locs ht hvm hw hB hz1 hk1 hS hce hcv hcl => ?_) (fun r u t H1 locs ht hvm hw hB hz1 hk1 hS => ?_)
  · skip
    obtain ⟨hEE, hB⟩ := hB
    obtain ⟨hP1, -, hD1⟩ := hB
    rw [ht] at hP1
    obtain ⟨hPo, hD⟩ := jnL (Q := [(o, .inl (cL, 1, .inr (.inl g)))]) (P := wX c0 a (n, wk, sd, bt, lt, lo, rk, ad, vl, bg, cm, sp, gd, rf, ct, rd, sm, js, sn, wl)) hPo hD hk1 hD1 hFx
    have hP := hPo.app hP1
    obtain ⟨rfl, hf9⟩ := hEE
    have hP : va_P (dC, dI) vwCl (WO c0 cL a o (n, wk, sd, bt, lt, lo, rk, ad, vl, bg, cm, sp, gd, rf, ct, rd, sm, js, sn, wl) g) H1 := hP
    have hD : va_D A (WO c0 cL a o (n, wk, sd, bt, lt, lo, rk, ad, vl, bg, cm, sp, gd, rf, ct, rd, sm, js, sn, wl) g) := hD
    refine vx_catch (own := RL) (name := "java/lang/IllegalStateException") (E := "java/lang/IllegalStateException") hown [] ⟨0, 8, 11, 25⟩ [] (by rw [hTab]; rfl) (fun z hz => nomatch hz) (by decide) (by decide) (hE.t m_275 rfl) (hE.t m_283 rfl) hce hcv hcl ?_
    refine lv_astore_n (lv' := [(2, .ref q9), (0, .ref (a 0)), (1, .ref o)]) hx hb dL_many_11 rfl hl (by decide) rfl (fun ls hl => ?_)
    refine lv_iconst (v := 1) hx hb dL_many_12 (by decide) ?_
    exact W.iret (v := 1) hx hb hr (fun t ht hW => ⟨⟨1, ((n, wk, sd, bt, lt, lo, rk, ad, vl, bg, cm, sp, gd, rf, ct, rd, sm, js, sn, wl), g), rfl, ⟨by rw [hf9], by rw [hf9], by rw [hf9]; simp⟩, by rw [ht]; exact hP, va_K.moved hW.alike hK, hD⟩, hS.F ht⟩) hS.2.2 dL_many_13
  · skip
    obtain ⟨hP1, -, hD1⟩ := hB
    rw [ht] at hP1
    obtain ⟨hPo, hD⟩ := jnL (Q := [(o, .inl (cL, 1, .inr (.inl g)))]) (P := wX c0 a (n, wk, sd, bt, lt, lo, rk, ad, vl, bg, cm, sp, gd, rf, ct, rd, sm, js, sn, wl)) hPo hD hk1 hD1 hFx
    have hP := hPo.app hP1
    have hP : va_P (dC, dI) vwCl (WO c0 cL a o u g) H1 := hP
    have hD : va_D A (WO c0 cL a o u g) := hD
    generalize H1 = H at hP hS ⊢
    refine lv_i2l hx hb dL_many_6 (v := r.toInt64) rfl ?_
    refine va_last hx hb hK hP hD hS 0 1 rfl rfl in01 dL_many_7 (fun H locs hP hD hS => ?_)
    rw [sb_cl0] at hP hD
    have hP : va_P (dC, dI) vwCl (WO c0 cL a o u (vp_updL g 0 r.toInt64)) H := hP
    have hD : va_D A (WO c0 cL a o u (vp_updL g 0 r.toInt64)) := hD
    refine lv_goto (tgt := 14) hx hb dL_many_8 (by decide) ?_
    refine lv_iconst (v := 0) hx hb dL_many_14 (by decide) ?_
    exact W.iret (v := 0) hx hb hr (fun t ht hW => ⟨⟨0, (u, vp_updL g 0 r.toInt64), rfl, ⟨by rw [hw], by rw [hw], by rw [hw]; simp⟩, by rw [ht]; exact hP, va_K.moved hW.alike hK, hD⟩, hS.F ht⟩) hS.2.2 dL_many_15
set_option maxHeartbeats 4000000 in
set_option maxRecDepth 100000 in
/-- the law's value -/
theorem c_L_value (l : Launch) (hl9 : l.stackTraces = false) (dC : Nat → ClassId) (dI : Nat → Nat → Nat) (c0 cL : ClassId) (o : Nat) (g : Nat → Int64) (a : Nat → Nat) (sz : Nat) (uu : xS) (hok : xok uu) (k : Int32) : Met l yL_value wsL_value ({ frames := 8, cells := 2, slots := 12, locals := 128 }) (va_Pc [.ref (a 0), .int k, .ref o] (PW dC dI c0 cL a o uu g sz)) (va_Qi (fun (r : Int32) (v9 : xS × (Nat → Int64)) => r = (f_value uu k).1 ∧ v9.1 = (f_value uu k).2.2 ∧ v9.2 = if (f_value uu k).1 = 0 then vp_updL g 0 (f_value uu k).2.1 else g) (fun (v9 : xS × (Nat → Int64)) t => va_P (dC, dI) vwCl (WO c0 cL a o v9.1 v9.2) t.heap ∧ va_K (dC, dI) vwCl [(c0, .int), (cL, .long)] t ∧ va_D (va_A (WO c0 cL a o uu g) sz) (WO c0 cL a o v9.1 v9.2)) (va_A (WO c0 cL a o uu g) sz)) 2 12 (va_A (WO c0 cL a o uu g) sz) := by
  obtain ⟨n, wk, sd, bt, lt, lo, rk, ad, vl, bg, cm, sp, gd, rf, ct, rd, sm, js, sn, wl⟩ := uu
  obtain ⟨hn, hct⟩ := hok
  refine va_MetW (cc := cL_value) (maxL := 4) (ret := (some .int)) (hh := [(0, 9, 12, 13), (0, 9, 15, 25)]) (by decide) rfl ?_
  intro p e s m args below meth c s₁ B hml hv
  obtain ⟨rfl, hsz, hP, hK, hD0, hE⟩ := hv
  have hx := B.exec
  have hb := B.bytes
  have hr := B.returns
  have hown : s.vm.findClass RL = some m.cls := findClass_of_methodNamed B.named
  have hlocks := B.notSynchronized
  have hTab : c.exceptionTable.toList = tableOf [(0, 9, 12, 13), (0, 9, 15, 25)] := vx_table (x := yL_value) B (hE.t m_376 rfl)
  subst hsz
  have hD := hD0.self (sz := s.heap.size)
  generalize hAe : va_A (WO c0 cL a o (n, wk, sd, bt, lt, lo, rk, ad, vl, bg, cm, sp, gd, rf, ct, rd, sm, js, sn, wl) g) s.heap.size = A at hD hE ⊢
  have hts := hE.ts (args := ([.ref (a 0), .int k, .ref o] : List Value).toArray)
  have hA : ∀ q : Nat, s.heap.size ≤ q → A q := fun q h => by rw [← hAe]; exact Or.inr h
  have hS : va_S A s.heap s.heap [] := va_S.rf
  have hP : va_P (dC, dI) vwCl (WO c0 cL a o (n, wk, sd, bt, lt, lo, rk, ad, vl, bg, cm, sp, gd, rf, ct, rd, sm, js, sn, wl) g) s.heap := hP
  have hl := lv_entry ([.ref (a 0), .int k, .ref o]) (n := 4) (Nat.le_of_ble_eq_true rfl)
  rw [lg_entry_eq]
  generalize (lg_sl ([.ref (a 0), .int k, .ref o]) ++ List.replicate (4 - (lg_sl ([.ref (a 0), .int k, .ref o])).length) Slot.unset).toArray = ls at hl ⊢
  have hl : lv_has ls 4 [(0, .ref (a 0)), (1, .int k), (2, .ref o)] := hl
  refine lv_aload_n hx hb dL_value_0 rfl (lv_at hl 2 rfl) ?_
  refine lv_iconst (v := 0) hx hb dL_value_1 (by decide) ?_
  refine lv_aload_n hx hb dL_value_2 rfl (lv_at hl 0 rfl) ?_
  refine lv_iload_n hx hb dL_value_3 rfl (lv_at hl 1 rfl) ?_
  have hPx := hP.sub (ws' := wX c0 a (n, wk, sd, bt, lt, lo, rk, ad, vl, bg, cm, sp, gd, rf, ct, rd, sm, js, sn, wl)) [1, 2, 3, 4, 5, 6, 7, 8, 9, 10, 11, 12, 13, 14] rfl
  have hDx := hD.sub (ws' := wX c0 a (n, wk, sd, bt, lt, lo, rk, ad, vl, bg, cm, sp, gd, rf, ct, rd, sm, js, sn, wl)) [1, 2, 3, 4, 5, 6, 7, 8, 9, 10, 11, 12, 13, 14] (by decide) rfl
  have hKx := hK.sub (tys' := [(c0, .int)]) [0] rfl
  have hPo := hP.sub (ws' := [(o, .inl (cL, 1, .inr (.inl g)))]) [0] rfl
  have hFx := fre hDx hS hA
  refine vx_calli (vx_runV (As := [.int k]) (rest := [.int 0, .ref o]) ⟨hx, hb, hml, hown, hts⟩ (c_X0_value l hl9 dC dI c0 a _ n wk sd bt lt lo rk ad vl bg cm sp gd rf ct rd sm js sn wl k hn) (cwV 1 hts gL_value_X0_value rfl rfl rfl (by decide +kernel) ⟨(Nat.le_of_ble_eq_true rfl), (Nat.le_of_ble_eq_true rfl)⟩) ⟨PX_blind, va_recv hKx hPx (ci := 0) (q0 := 0) rfl rfl, PX_give hPx hKx hDx hE hS hFx⟩ rfl rfl hl.1 rfl (lv_room (Nat.le_of_ble_eq_true rfl)) dL_value_4 ⟨by decide, by decide⟩) hS (fun q _ h => hFx q h) hFx (fun q _ h => hFx q h) (fun E ce q9 u t H1 locs ht hvm hw hB hz1 hk1 hS hce hcv hcl => ?_) (fun r u t H1 locs ht hvm hw hB hz1 hk1 hS => ?_)
  · skip
    obtain ⟨hEE, hB⟩ := hB
    obtain ⟨hP1, -, hD1⟩ := hB
    rw [ht] at hP1
    obtain ⟨hPo, hD⟩ := jnL (Q := [(o, .inl (cL, 1, .inr (.inl g)))]) (P := wX c0 a (n, wk, sd, bt, lt, lo, rk, ad, vl, bg, cm, sp, gd, rf, ct, rd, sm, js, sn, wl)) hPo hD hk1 hD1 hFx
    have hP := hPo.app hP1
    rcases hEE with ⟨rfl, hf9⟩ | ⟨rfl, hf9⟩
    · skip
      have hP : va_P (dC, dI) vwCl (WO c0 cL a o (n, wk, sd, bt, lt, lo, rk, ad, vl, bg, cm, sp, gd, rf, ct, rd, sm, js, sn, wl) g) H1 := hP
      have hD : va_D A (WO c0 cL a o (n, wk, sd, bt, lt, lo, rk, ad, vl, bg, cm, sp, gd, rf, ct, rd, sm, js, sn, wl) g) := hD
      refine vx_catch (own := RL) (name := "java/lang/IndexOutOfBoundsException") (E := "java/lang/IndexOutOfBoundsException") hown [] ⟨0, 9, 12, 13⟩ [⟨0, 9, 15, 25⟩] (by rw [hTab]; rfl) (fun z hz => nomatch hz) (by decide) (by decide) (hE.t m_168 rfl) (hE.t m_180 rfl) hce hcv hcl ?_
      refine lv_astore_n (lv' := [(3, .ref q9), (0, .ref (a 0)), (1, .int k), (2, .ref o)]) hx hb dL_value_12 rfl hl (by decide) rfl (fun ls hl => ?_)
      refine lv_iconst (v := 1) hx hb dL_value_13 (by decide) ?_
      exact W.iret (v := 1) hx hb hr (fun t ht hW => ⟨⟨1, ((n, wk, sd, bt, lt, lo, rk, ad, vl, bg, cm, sp, gd, rf, ct, rd, sm, js, sn, wl), g), rfl, ⟨by rw [hf9], by rw [hf9], by rw [hf9]; simp⟩, by rw [ht]; exact hP, va_K.moved hW.alike hK, hD⟩, hS.F ht⟩) hS.2.2 dL_value_14
    · skip
      have hP : va_P (dC, dI) vwCl (WO c0 cL a o (n, wk, sd, bt, lt, lo, rk, ad, vl, bg, cm, sp, gd, rf, ct, rd, sm, js, sn, wl) g) H1 := hP
      have hD : va_D A (WO c0 cL a o (n, wk, sd, bt, lt, lo, rk, ad, vl, bg, cm, sp, gd, rf, ct, rd, sm, js, sn, wl) g) := hD
      refine vx_catch (own := RL) (name := "java/lang/IllegalStateException") (E := "java/lang/IllegalStateException") hown [⟨0, 9, 12, 13⟩] ⟨0, 9, 15, 25⟩ [] (by rw [hTab]; rfl) (by
          intro z hz
          rcases List.mem_cons.mp hz with rfl | hz
          · exact Or.inr ⟨by decide, "java/lang/IndexOutOfBoundsException", hts (.classLink RL 13 "java/lang/IndexOutOfBoundsException") (by decide +kernel), hE.nc ("java/lang/IllegalStateException", "java/lang/IndexOutOfBoundsException") (by decide +kernel)⟩
          cases hz) (by decide) (by decide) (hE.t m_275 rfl) (hE.t m_283 rfl) hce hcv hcl ?_
      refine lv_astore_n (lv' := [(3, .ref q9), (0, .ref (a 0)), (1, .int k), (2, .ref o)]) hx hb dL_value_15 rfl hl (by decide) rfl (fun ls hl => ?_)
      refine lv_iconst (v := 2) hx hb dL_value_16 (by decide) ?_
      exact W.iret (v := 2) hx hb hr (fun t ht hW => ⟨⟨2, ((n, wk, sd, bt, lt, lo, rk, ad, vl, bg, cm, sp, gd, rf, ct, rd, sm, js, sn, wl), g), rfl, ⟨by rw [hf9], by rw [hf9], by rw [hf9]; simp⟩, by rw [ht]; exact hP, va_K.moved hW.alike hK, hD⟩, hS.F ht⟩) hS.2.2 dL_value_17
  · skip
    obtain ⟨hP1, -, hD1⟩ := hB
    rw [ht] at hP1
    obtain ⟨hPo, hD⟩ := jnL (Q := [(o, .inl (cL, 1, .inr (.inl g)))]) (P := wX c0 a (n, wk, sd, bt, lt, lo, rk, ad, vl, bg, cm, sp, gd, rf, ct, rd, sm, js, sn, wl)) hPo hD hk1 hD1 hFx
    have hP := hPo.app hP1
    have hP : va_P (dC, dI) vwCl (WO c0 cL a o u g) H1 := hP
    have hD : va_D A (WO c0 cL a o u g) := hD
    generalize H1 = H at hP hS ⊢
    refine lv_i2l hx hb dL_value_7 (v := r.toInt64) rfl ?_
    refine va_last hx hb hK hP hD hS 0 1 rfl rfl in01 dL_value_8 (fun H locs hP hD hS => ?_)
    rw [sb_cl0] at hP hD
    have hP : va_P (dC, dI) vwCl (WO c0 cL a o u (vp_updL g 0 r.toInt64)) H := hP
    have hD : va_D A (WO c0 cL a o u (vp_updL g 0 r.toInt64)) := hD
    refine lv_goto (tgt := 18) hx hb dL_value_9 (by decide) ?_
    refine lv_iconst (v := 0) hx hb dL_value_18 (by decide) ?_
    exact W.iret (v := 0) hx hb hr (fun t ht hW => ⟨⟨0, (u, vp_updL g 0 r.toInt64), rfl, ⟨by rw [hw], by rw [hw], by rw [hw]; simp⟩, by rw [ht]; exact hP, va_K.moved hW.alike hK, hD⟩, hS.F ht⟩) hS.2.2 dL_value_19
set_option maxHeartbeats 4000000 in
set_option maxRecDepth 100000 in
/-- the law's chain -/
theorem c_L_chain (l : Launch) (hl9 : l.stackTraces = false) (dC : Nat → ClassId) (dI : Nat → Nat → Nat) (c0 cL : ClassId) (o : Nat) (g : Nat → Int64) (a : Nat → Nat) (sz : Nat) (uu : xS) (hok : xok uu) (k : Int32) (w : Int32) : Met l yL_chain wsL_chain ({ frames := 8, cells := 2, slots := 12, locals := 128 }) (va_Pc [.ref (a 0), .int k, .int w, .ref o] (PW dC dI c0 cL a o uu g sz)) (va_Qi (fun (r : Int32) (v9 : xS × (Nat → Int64)) => r = (f_chain uu k w).1 ∧ v9.1 = (f_chain uu k w).2.2 ∧ v9.2 = if (f_chain uu k w).1 = 0 then vp_updL g 0 (f_chain uu k w).2.1 else g) (fun (v9 : xS × (Nat → Int64)) t => va_P (dC, dI) vwCl (WO c0 cL a o v9.1 v9.2) t.heap ∧ va_K (dC, dI) vwCl [(c0, .int), (cL, .long)] t ∧ va_D (va_A (WO c0 cL a o uu g) sz) (WO c0 cL a o v9.1 v9.2)) (va_A (WO c0 cL a o uu g) sz)) 2 12 (va_A (WO c0 cL a o uu g) sz) := by
  obtain ⟨n, wk, sd, bt, lt, lo, rk, ad, vl, bg, cm, sp, gd, rf, ct, rd, sm, js, sn, wl⟩ := uu
  obtain ⟨hn, hct⟩ := hok
  refine va_MetW (cc := cL_chain) (maxL := 5) (ret := (some .int)) (hh := [(0, 9, 12, 13)]) (by decide) rfl ?_
  intro p e s m args below meth c s₁ B hml hv
  obtain ⟨rfl, hsz, hP, hK, hD0, hE⟩ := hv
  have hx := B.exec
  have hb := B.bytes
  have hr := B.returns
  have hown : s.vm.findClass RL = some m.cls := findClass_of_methodNamed B.named
  have hlocks := B.notSynchronized
  have hTab : c.exceptionTable.toList = tableOf [(0, 9, 12, 13)] := vx_table (x := yL_chain) B (hE.t m_383 rfl)
  subst hsz
  have hD := hD0.self (sz := s.heap.size)
  generalize hAe : va_A (WO c0 cL a o (n, wk, sd, bt, lt, lo, rk, ad, vl, bg, cm, sp, gd, rf, ct, rd, sm, js, sn, wl) g) s.heap.size = A at hD hE ⊢
  have hts := hE.ts (args := ([.ref (a 0), .int k, .int w, .ref o] : List Value).toArray)
  have hA : ∀ q : Nat, s.heap.size ≤ q → A q := fun q h => by rw [← hAe]; exact Or.inr h
  have hS : va_S A s.heap s.heap [] := va_S.rf
  have hP : va_P (dC, dI) vwCl (WO c0 cL a o (n, wk, sd, bt, lt, lo, rk, ad, vl, bg, cm, sp, gd, rf, ct, rd, sm, js, sn, wl) g) s.heap := hP
  have hl := lv_entry ([.ref (a 0), .int k, .int w, .ref o]) (n := 5) (Nat.le_of_ble_eq_true rfl)
  rw [lg_entry_eq]
  generalize (lg_sl ([.ref (a 0), .int k, .int w, .ref o]) ++ List.replicate (5 - (lg_sl ([.ref (a 0), .int k, .int w, .ref o])).length) Slot.unset).toArray = ls at hl ⊢
  have hl : lv_has ls 5 [(0, .ref (a 0)), (1, .int k), (2, .int w), (3, .ref o)] := hl
  refine lv_aload_n hx hb dL_chain_0 rfl (lv_at hl 3 rfl) ?_
  refine lv_iconst (v := 0) hx hb dL_chain_1 (by decide) ?_
  refine lv_aload_n hx hb dL_chain_2 rfl (lv_at hl 0 rfl) ?_
  refine lv_iload_n hx hb dL_chain_3 rfl (lv_at hl 1 rfl) ?_
  refine lv_iload_n hx hb dL_chain_4 rfl (lv_at hl 2 rfl) ?_
  have hPx := hP.sub (ws' := wX c0 a (n, wk, sd, bt, lt, lo, rk, ad, vl, bg, cm, sp, gd, rf, ct, rd, sm, js, sn, wl)) [1, 2, 3, 4, 5, 6, 7, 8, 9, 10, 11, 12, 13, 14] rfl
  have hDx := hD.sub (ws' := wX c0 a (n, wk, sd, bt, lt, lo, rk, ad, vl, bg, cm, sp, gd, rf, ct, rd, sm, js, sn, wl)) [1, 2, 3, 4, 5, 6, 7, 8, 9, 10, 11, 12, 13, 14] (by decide) rfl
  have hKx := hK.sub (tys' := [(c0, .int)]) [0] rfl
  have hPo := hP.sub (ws' := [(o, .inl (cL, 1, .inr (.inl g)))]) [0] rfl
  have hFx := fre hDx hS hA
  refine vx_calll (vx_runV (As := [.int k, .int w]) (rest := [.int 0, .ref o]) ⟨hx, hb, hml, hown, hts⟩ (c_X0_chain l hl9 dC dI c0 a _ n wk sd bt lt lo rk ad vl bg cm sp gd rf ct rd sm js sn wl k w hn) (cwV 2 hts gL_chain_X0_chain rfl rfl rfl (by decide +kernel) ⟨(Nat.le_of_ble_eq_true rfl), (Nat.le_of_ble_eq_true rfl)⟩) ⟨PX_blind, va_recv hKx hPx (ci := 0) (q0 := 0) rfl rfl, PX_give hPx hKx hDx hE hS hFx⟩ rfl rfl hl.1 rfl (lv_room (Nat.le_of_ble_eq_true rfl)) dL_chain_5 ⟨by decide, by decide⟩) hS (fun q _ h => hFx q h) hFx (fun q _ h => hFx q h) (fun E ce q9 u t H1 locs ht hvm hw hB hz1 hk1 hS hce hcv hcl => ?_) (fun r u t H1 locs ht hvm hw hB hz1 hk1 hS => ?_)
  · skip
    obtain ⟨hEE, hB⟩ := hB
    obtain ⟨hP1, -, hD1⟩ := hB
    rw [ht] at hP1
    obtain ⟨hPo, hD⟩ := jnL (Q := [(o, .inl (cL, 1, .inr (.inl g)))]) (P := wX c0 a (n, wk, sd, bt, lt, lo, rk, ad, vl, bg, cm, sp, gd, rf, ct, rd, sm, js, sn, wl)) hPo hD hk1 hD1 hFx
    have hP := hPo.app hP1
    obtain ⟨rfl, hf9⟩ := hEE
    have hP : va_P (dC, dI) vwCl (WO c0 cL a o (n, wk, sd, bt, lt, lo, rk, ad, vl, bg, cm, sp, gd, rf, ct, rd, sm, js, sn, wl) g) H1 := hP
    have hD : va_D A (WO c0 cL a o (n, wk, sd, bt, lt, lo, rk, ad, vl, bg, cm, sp, gd, rf, ct, rd, sm, js, sn, wl) g) := hD
    refine vx_catch (own := RL) (name := "java/lang/IndexOutOfBoundsException") (E := "java/lang/IndexOutOfBoundsException") hown [] ⟨0, 9, 12, 13⟩ [] (by rw [hTab]; rfl) (fun z hz => nomatch hz) (by decide) (by decide) (hE.t m_168 rfl) (hE.t m_180 rfl) hce hcv hcl ?_
    refine lv_astore (lv' := [(4, .ref q9), (0, .ref (a 0)), (1, .int k), (2, .int w), (3, .ref o)]) hx hb dL_chain_12 hl (by decide) rfl (fun ls hl => ?_)
    refine lv_iconst (v := 1) hx hb dL_chain_14 (by decide) ?_
    exact W.iret (v := 1) hx hb hr (fun t ht hW => ⟨⟨1, ((n, wk, sd, bt, lt, lo, rk, ad, vl, bg, cm, sp, gd, rf, ct, rd, sm, js, sn, wl), g), rfl, ⟨by rw [hf9], by rw [hf9], by rw [hf9]; simp⟩, by rw [ht]; exact hP, va_K.moved hW.alike hK, hD⟩, hS.F ht⟩) hS.2.2 dL_chain_15
  · skip
    obtain ⟨hP1, -, hD1⟩ := hB
    rw [ht] at hP1
    obtain ⟨hPo, hD⟩ := jnL (Q := [(o, .inl (cL, 1, .inr (.inl g)))]) (P := wX c0 a (n, wk, sd, bt, lt, lo, rk, ad, vl, bg, cm, sp, gd, rf, ct, rd, sm, js, sn, wl)) hPo hD hk1 hD1 hFx
    have hP := hPo.app hP1
    have hP : va_P (dC, dI) vwCl (WO c0 cL a o u g) H1 := hP
    have hD : va_D A (WO c0 cL a o u g) := hD
    generalize H1 = H at hP hS ⊢
    refine va_last hx hb hK hP hD hS 0 1 rfl rfl in01 dL_chain_8 (fun H locs hP hD hS => ?_)
    rw [sb_cl0] at hP hD
    have hP : va_P (dC, dI) vwCl (WO c0 cL a o u (vp_updL g 0 r)) H := hP
    have hD : va_D A (WO c0 cL a o u (vp_updL g 0 r)) := hD
    refine lv_goto (tgt := 16) hx hb dL_chain_9 (by decide) ?_
    refine lv_iconst (v := 0) hx hb dL_chain_16 (by decide) ?_
    exact W.iret (v := 0) hx hb hr (fun t ht hW => ⟨⟨0, (u, vp_updL g 0 r), rfl, ⟨by rw [hw], by rw [hw], by rw [hw]; simp⟩, by rw [ht]; exact hP, va_K.moved hW.alike hK, hD⟩, hS.F ht⟩) hS.2.2 dL_chain_17
set_option maxHeartbeats 4000000 in
set_option maxRecDepth 100000 in
/-- the law's came -/
theorem c_L_came (l : Launch) (hl9 : l.stackTraces = false) (dC : Nat → ClassId) (dI : Nat → Nat → Nat) (c0 cL : ClassId) (o : Nat) (g : Nat → Int64) (a : Nat → Nat) (sz : Nat) (uu : xS) (hok : xok uu) (k : Int32) : Met l yL_came wsL_came ({ frames := 8, cells := 2, slots := 12, locals := 128 }) (va_Pc [.ref (a 0), .int k, .ref o] (PW dC dI c0 cL a o uu g sz)) (va_Qi (fun (r : Int32) (v9 : xS × (Nat → Int64)) => r = (f_came uu k).1 ∧ v9.1 = (f_came uu k).2.2 ∧ v9.2 = if (f_came uu k).1 = 0 then vp_updL g 0 (f_came uu k).2.1 else g) (fun (v9 : xS × (Nat → Int64)) t => va_P (dC, dI) vwCl (WO c0 cL a o v9.1 v9.2) t.heap ∧ va_K (dC, dI) vwCl [(c0, .int), (cL, .long)] t ∧ va_D (va_A (WO c0 cL a o uu g) sz) (WO c0 cL a o v9.1 v9.2)) (va_A (WO c0 cL a o uu g) sz)) 2 12 (va_A (WO c0 cL a o uu g) sz) := by
  obtain ⟨n, wk, sd, bt, lt, lo, rk, ad, vl, bg, cm, sp, gd, rf, ct, rd, sm, js, sn, wl⟩ := uu
  obtain ⟨hn, hct⟩ := hok
  refine va_MetW (cc := cL_came) (maxL := 4) (ret := (some .int)) (hh := [(0, 9, 12, 13), (0, 9, 15, 25)]) (by decide) rfl ?_
  intro p e s m args below meth c s₁ B hml hv
  obtain ⟨rfl, hsz, hP, hK, hD0, hE⟩ := hv
  have hx := B.exec
  have hb := B.bytes
  have hr := B.returns
  have hown : s.vm.findClass RL = some m.cls := findClass_of_methodNamed B.named
  have hlocks := B.notSynchronized
  have hTab : c.exceptionTable.toList = tableOf [(0, 9, 12, 13), (0, 9, 15, 25)] := vx_table (x := yL_came) B (hE.t m_392 rfl)
  subst hsz
  have hD := hD0.self (sz := s.heap.size)
  generalize hAe : va_A (WO c0 cL a o (n, wk, sd, bt, lt, lo, rk, ad, vl, bg, cm, sp, gd, rf, ct, rd, sm, js, sn, wl) g) s.heap.size = A at hD hE ⊢
  have hts := hE.ts (args := ([.ref (a 0), .int k, .ref o] : List Value).toArray)
  have hA : ∀ q : Nat, s.heap.size ≤ q → A q := fun q h => by rw [← hAe]; exact Or.inr h
  have hS : va_S A s.heap s.heap [] := va_S.rf
  have hP : va_P (dC, dI) vwCl (WO c0 cL a o (n, wk, sd, bt, lt, lo, rk, ad, vl, bg, cm, sp, gd, rf, ct, rd, sm, js, sn, wl) g) s.heap := hP
  have hl := lv_entry ([.ref (a 0), .int k, .ref o]) (n := 4) (Nat.le_of_ble_eq_true rfl)
  rw [lg_entry_eq]
  generalize (lg_sl ([.ref (a 0), .int k, .ref o]) ++ List.replicate (4 - (lg_sl ([.ref (a 0), .int k, .ref o])).length) Slot.unset).toArray = ls at hl ⊢
  have hl : lv_has ls 4 [(0, .ref (a 0)), (1, .int k), (2, .ref o)] := hl
  refine lv_aload_n hx hb dL_came_0 rfl (lv_at hl 2 rfl) ?_
  refine lv_iconst (v := 0) hx hb dL_came_1 (by decide) ?_
  refine lv_aload_n hx hb dL_came_2 rfl (lv_at hl 0 rfl) ?_
  refine lv_iload_n hx hb dL_came_3 rfl (lv_at hl 1 rfl) ?_
  have hPx := hP.sub (ws' := wX c0 a (n, wk, sd, bt, lt, lo, rk, ad, vl, bg, cm, sp, gd, rf, ct, rd, sm, js, sn, wl)) [1, 2, 3, 4, 5, 6, 7, 8, 9, 10, 11, 12, 13, 14] rfl
  have hDx := hD.sub (ws' := wX c0 a (n, wk, sd, bt, lt, lo, rk, ad, vl, bg, cm, sp, gd, rf, ct, rd, sm, js, sn, wl)) [1, 2, 3, 4, 5, 6, 7, 8, 9, 10, 11, 12, 13, 14] (by decide) rfl
  have hKx := hK.sub (tys' := [(c0, .int)]) [0] rfl
  have hPo := hP.sub (ws' := [(o, .inl (cL, 1, .inr (.inl g)))]) [0] rfl
  have hFx := fre hDx hS hA
  refine vx_calli (vx_runV (As := [.int k]) (rest := [.int 0, .ref o]) ⟨hx, hb, hml, hown, hts⟩ (c_X0_came l hl9 dC dI c0 a _ n wk sd bt lt lo rk ad vl bg cm sp gd rf ct rd sm js sn wl k hn hct) (cwV 1 hts gL_came_X0_came rfl rfl rfl (by decide +kernel) ⟨(Nat.le_of_ble_eq_true rfl), (Nat.le_of_ble_eq_true rfl)⟩) ⟨PX_blind, va_recv hKx hPx (ci := 0) (q0 := 0) rfl rfl, PX_give hPx hKx hDx hE hS hFx⟩ rfl rfl hl.1 rfl (lv_room (Nat.le_of_ble_eq_true rfl)) dL_came_4 ⟨by decide, by decide⟩) hS (fun q _ h => hFx q h) hFx (fun q _ h => hFx q h) (fun E ce q9 u t H1 locs ht hvm hw hB hz1 hk1 hS hce hcv hcl => ?_) (fun r u t H1 locs ht hvm hw hB hz1 hk1 hS => ?_)
  · skip
    obtain ⟨hEE, hB⟩ := hB
    obtain ⟨hP1, -, hD1⟩ := hB
    rw [ht] at hP1
    obtain ⟨hPo, hD⟩ := jnL (Q := [(o, .inl (cL, 1, .inr (.inl g)))]) (P := wX c0 a (n, wk, sd, bt, lt, lo, rk, ad, vl, bg, cm, sp, gd, rf, ct, rd, sm, js, sn, wl)) hPo hD hk1 hD1 hFx
    have hP := hPo.app hP1
    rcases hEE with ⟨rfl, hf9⟩ | ⟨rfl, hf9⟩
    · skip
      have hP : va_P (dC, dI) vwCl (WO c0 cL a o (n, wk, sd, bt, lt, lo, rk, ad, vl, bg, cm, sp, gd, rf, ct, rd, sm, js, sn, wl) g) H1 := hP
      have hD : va_D A (WO c0 cL a o (n, wk, sd, bt, lt, lo, rk, ad, vl, bg, cm, sp, gd, rf, ct, rd, sm, js, sn, wl) g) := hD
      refine vx_catch (own := RL) (name := "java/lang/IndexOutOfBoundsException") (E := "java/lang/IndexOutOfBoundsException") hown [] ⟨0, 9, 12, 13⟩ [⟨0, 9, 15, 25⟩] (by rw [hTab]; rfl) (fun z hz => nomatch hz) (by decide) (by decide) (hE.t m_168 rfl) (hE.t m_180 rfl) hce hcv hcl ?_
      refine lv_astore_n (lv' := [(3, .ref q9), (0, .ref (a 0)), (1, .int k), (2, .ref o)]) hx hb dL_came_12 rfl hl (by decide) rfl (fun ls hl => ?_)
      refine lv_iconst (v := 1) hx hb dL_came_13 (by decide) ?_
      exact W.iret (v := 1) hx hb hr (fun t ht hW => ⟨⟨1, ((n, wk, sd, bt, lt, lo, rk, ad, vl, bg, cm, sp, gd, rf, ct, rd, sm, js, sn, wl), g), rfl, ⟨by rw [hf9], by rw [hf9], by rw [hf9]; simp⟩, by rw [ht]; exact hP, va_K.moved hW.alike hK, hD⟩, hS.F ht⟩) hS.2.2 dL_came_14
    · skip
      have hP : va_P (dC, dI) vwCl (WO c0 cL a o (n, wk, sd, bt, lt, lo, rk, ad, vl, bg, cm, sp, gd, rf, ct, rd, sm, js, sn, wl) g) H1 := hP
      have hD : va_D A (WO c0 cL a o (n, wk, sd, bt, lt, lo, rk, ad, vl, bg, cm, sp, gd, rf, ct, rd, sm, js, sn, wl) g) := hD
      refine vx_catch (own := RL) (name := "java/lang/IllegalStateException") (E := "java/lang/IllegalStateException") hown [⟨0, 9, 12, 13⟩] ⟨0, 9, 15, 25⟩ [] (by rw [hTab]; rfl) (by
          intro z hz
          rcases List.mem_cons.mp hz with rfl | hz
          · exact Or.inr ⟨by decide, "java/lang/IndexOutOfBoundsException", hts (.classLink RL 13 "java/lang/IndexOutOfBoundsException") (by decide +kernel), hE.nc ("java/lang/IllegalStateException", "java/lang/IndexOutOfBoundsException") (by decide +kernel)⟩
          cases hz) (by decide) (by decide) (hE.t m_275 rfl) (hE.t m_283 rfl) hce hcv hcl ?_
      refine lv_astore_n (lv' := [(3, .ref q9), (0, .ref (a 0)), (1, .int k), (2, .ref o)]) hx hb dL_came_15 rfl hl (by decide) rfl (fun ls hl => ?_)
      refine lv_iconst (v := 2) hx hb dL_came_16 (by decide) ?_
      exact W.iret (v := 2) hx hb hr (fun t ht hW => ⟨⟨2, ((n, wk, sd, bt, lt, lo, rk, ad, vl, bg, cm, sp, gd, rf, ct, rd, sm, js, sn, wl), g), rfl, ⟨by rw [hf9], by rw [hf9], by rw [hf9]; simp⟩, by rw [ht]; exact hP, va_K.moved hW.alike hK, hD⟩, hS.F ht⟩) hS.2.2 dL_came_17
  · skip
    obtain ⟨hP1, -, hD1⟩ := hB
    rw [ht] at hP1
    obtain ⟨hPo, hD⟩ := jnL (Q := [(o, .inl (cL, 1, .inr (.inl g)))]) (P := wX c0 a (n, wk, sd, bt, lt, lo, rk, ad, vl, bg, cm, sp, gd, rf, ct, rd, sm, js, sn, wl)) hPo hD hk1 hD1 hFx
    have hP := hPo.app hP1
    have hP : va_P (dC, dI) vwCl (WO c0 cL a o u g) H1 := hP
    have hD : va_D A (WO c0 cL a o u g) := hD
    generalize H1 = H at hP hS ⊢
    refine lv_i2l hx hb dL_came_7 (v := r.toInt64) rfl ?_
    refine va_last hx hb hK hP hD hS 0 1 rfl rfl in01 dL_came_8 (fun H locs hP hD hS => ?_)
    rw [sb_cl0] at hP hD
    have hP : va_P (dC, dI) vwCl (WO c0 cL a o u (vp_updL g 0 r.toInt64)) H := hP
    have hD : va_D A (WO c0 cL a o u (vp_updL g 0 r.toInt64)) := hD
    refine lv_goto (tgt := 18) hx hb dL_came_9 (by decide) ?_
    refine lv_iconst (v := 0) hx hb dL_came_18 (by decide) ?_
    exact W.iret (v := 0) hx hb hr (fun t ht hW => ⟨⟨0, (u, vp_updL g 0 r.toInt64), rfl, ⟨by rw [hw], by rw [hw], by rw [hw]; simp⟩, by rw [ht]; exact hP, va_K.moved hW.alike hK, hD⟩, hS.F ht⟩) hS.2.2 dL_came_19
set_option maxHeartbeats 4000000 in
set_option maxRecDepth 100000 in
/-- the law's begun -/
theorem c_L_begun (l : Launch) (hl9 : l.stackTraces = false) (dC : Nat → ClassId) (dI : Nat → Nat → Nat) (c0 cL : ClassId) (o : Nat) (g : Nat → Int64) (a : Nat → Nat) (sz : Nat) (uu : xS) (hok : xok uu) (k : Int32) : Met l yL_begun wsL_begun ({ frames := 8, cells := 2, slots := 12, locals := 128 }) (va_Pc [.ref (a 0), .int k, .ref o] (PW dC dI c0 cL a o uu g sz)) (va_Qi (fun (r : Int32) (v9 : xS × (Nat → Int64)) => r = (f_begun uu k).1 ∧ v9.1 = (f_begun uu k).2.2 ∧ v9.2 = if (f_begun uu k).1 = 0 then vp_updL g 0 (f_begun uu k).2.1 else g) (fun (v9 : xS × (Nat → Int64)) t => va_P (dC, dI) vwCl (WO c0 cL a o v9.1 v9.2) t.heap ∧ va_K (dC, dI) vwCl [(c0, .int), (cL, .long)] t ∧ va_D (va_A (WO c0 cL a o uu g) sz) (WO c0 cL a o v9.1 v9.2)) (va_A (WO c0 cL a o uu g) sz)) 2 12 (va_A (WO c0 cL a o uu g) sz) := by
  obtain ⟨n, wk, sd, bt, lt, lo, rk, ad, vl, bg, cm, sp, gd, rf, ct, rd, sm, js, sn, wl⟩ := uu
  obtain ⟨hn, hct⟩ := hok
  refine va_MetW (cc := cL_begun) (maxL := 4) (ret := (some .int)) (hh := [(0, 9, 12, 13), (0, 9, 15, 25)]) (by decide) rfl ?_
  intro p e s m args below meth c s₁ B hml hv
  obtain ⟨rfl, hsz, hP, hK, hD0, hE⟩ := hv
  have hx := B.exec
  have hb := B.bytes
  have hr := B.returns
  have hown : s.vm.findClass RL = some m.cls := findClass_of_methodNamed B.named
  have hlocks := B.notSynchronized
  have hTab : c.exceptionTable.toList = tableOf [(0, 9, 12, 13), (0, 9, 15, 25)] := vx_table (x := yL_begun) B (hE.t m_400 rfl)
  subst hsz
  have hD := hD0.self (sz := s.heap.size)
  generalize hAe : va_A (WO c0 cL a o (n, wk, sd, bt, lt, lo, rk, ad, vl, bg, cm, sp, gd, rf, ct, rd, sm, js, sn, wl) g) s.heap.size = A at hD hE ⊢
  have hts := hE.ts (args := ([.ref (a 0), .int k, .ref o] : List Value).toArray)
  have hA : ∀ q : Nat, s.heap.size ≤ q → A q := fun q h => by rw [← hAe]; exact Or.inr h
  have hS : va_S A s.heap s.heap [] := va_S.rf
  have hP : va_P (dC, dI) vwCl (WO c0 cL a o (n, wk, sd, bt, lt, lo, rk, ad, vl, bg, cm, sp, gd, rf, ct, rd, sm, js, sn, wl) g) s.heap := hP
  have hl := lv_entry ([.ref (a 0), .int k, .ref o]) (n := 4) (Nat.le_of_ble_eq_true rfl)
  rw [lg_entry_eq]
  generalize (lg_sl ([.ref (a 0), .int k, .ref o]) ++ List.replicate (4 - (lg_sl ([.ref (a 0), .int k, .ref o])).length) Slot.unset).toArray = ls at hl ⊢
  have hl : lv_has ls 4 [(0, .ref (a 0)), (1, .int k), (2, .ref o)] := hl
  refine lv_aload_n hx hb dL_begun_0 rfl (lv_at hl 2 rfl) ?_
  refine lv_iconst (v := 0) hx hb dL_begun_1 (by decide) ?_
  refine lv_aload_n hx hb dL_begun_2 rfl (lv_at hl 0 rfl) ?_
  refine lv_iload_n hx hb dL_begun_3 rfl (lv_at hl 1 rfl) ?_
  have hPx := hP.sub (ws' := wX c0 a (n, wk, sd, bt, lt, lo, rk, ad, vl, bg, cm, sp, gd, rf, ct, rd, sm, js, sn, wl)) [1, 2, 3, 4, 5, 6, 7, 8, 9, 10, 11, 12, 13, 14] rfl
  have hDx := hD.sub (ws' := wX c0 a (n, wk, sd, bt, lt, lo, rk, ad, vl, bg, cm, sp, gd, rf, ct, rd, sm, js, sn, wl)) [1, 2, 3, 4, 5, 6, 7, 8, 9, 10, 11, 12, 13, 14] (by decide) rfl
  have hKx := hK.sub (tys' := [(c0, .int)]) [0] rfl
  have hPo := hP.sub (ws' := [(o, .inl (cL, 1, .inr (.inl g)))]) [0] rfl
  have hFx := fre hDx hS hA
  refine vx_calli (vx_runV (As := [.int k]) (rest := [.int 0, .ref o]) ⟨hx, hb, hml, hown, hts⟩ (c_X0_begun l hl9 dC dI c0 a _ n wk sd bt lt lo rk ad vl bg cm sp gd rf ct rd sm js sn wl k hn) (cwV 1 hts gL_begun_X0_begun rfl rfl rfl (by decide +kernel) ⟨(Nat.le_of_ble_eq_true rfl), (Nat.le_of_ble_eq_true rfl)⟩) ⟨PX_blind, va_recv hKx hPx (ci := 0) (q0 := 0) rfl rfl, PX_give hPx hKx hDx hE hS hFx⟩ rfl rfl hl.1 rfl (lv_room (Nat.le_of_ble_eq_true rfl)) dL_begun_4 ⟨by decide, by decide⟩) hS (fun q _ h => hFx q h) hFx (fun q _ h => hFx q h) (fun E ce q9 u t H1 locs ht hvm hw hB hz1 hk1 hS hce hcv hcl => ?_) (fun r u t H1 locs ht hvm hw hB hz1 hk1 hS => ?_)
  · skip
    obtain ⟨hEE, hB⟩ := hB
    obtain ⟨hP1, -, hD1⟩ := hB
    rw [ht] at hP1
    obtain ⟨hPo, hD⟩ := jnL (Q := [(o, .inl (cL, 1, .inr (.inl g)))]) (P := wX c0 a (n, wk, sd, bt, lt, lo, rk, ad, vl, bg, cm, sp, gd, rf, ct, rd, sm, js, sn, wl)) hPo hD hk1 hD1 hFx
    have hP := hPo.app hP1
    rcases hEE with ⟨rfl, hf9⟩ | ⟨rfl, hf9⟩
    · skip
      have hP : va_P (dC, dI) vwCl (WO c0 cL a o (n, wk, sd, bt, lt, lo, rk, ad, vl, bg, cm, sp, gd, rf, ct, rd, sm, js, sn, wl) g) H1 := hP
      have hD : va_D A (WO c0 cL a o (n, wk, sd, bt, lt, lo, rk, ad, vl, bg, cm, sp, gd, rf, ct, rd, sm, js, sn, wl) g) := hD
      refine vx_catch (own := RL) (name := "java/lang/IndexOutOfBoundsException") (E := "java/lang/IndexOutOfBoundsException") hown [] ⟨0, 9, 12, 13⟩ [⟨0, 9, 15, 25⟩] (by rw [hTab]; rfl) (fun z hz => nomatch hz) (by decide) (by decide) (hE.t m_168 rfl) (hE.t m_180 rfl) hce hcv hcl ?_
      refine lv_astore_n (lv' := [(3, .ref q9), (0, .ref (a 0)), (1, .int k), (2, .ref o)]) hx hb dL_begun_12 rfl hl (by decide) rfl (fun ls hl => ?_)
      refine lv_iconst (v := 1) hx hb dL_begun_13 (by decide) ?_
      exact W.iret (v := 1) hx hb hr (fun t ht hW => ⟨⟨1, ((n, wk, sd, bt, lt, lo, rk, ad, vl, bg, cm, sp, gd, rf, ct, rd, sm, js, sn, wl), g), rfl, ⟨by rw [hf9], by rw [hf9], by rw [hf9]; simp⟩, by rw [ht]; exact hP, va_K.moved hW.alike hK, hD⟩, hS.F ht⟩) hS.2.2 dL_begun_14
    · skip
      have hP : va_P (dC, dI) vwCl (WO c0 cL a o (n, wk, sd, bt, lt, lo, rk, ad, vl, bg, cm, sp, gd, rf, ct, rd, sm, js, sn, wl) g) H1 := hP
      have hD : va_D A (WO c0 cL a o (n, wk, sd, bt, lt, lo, rk, ad, vl, bg, cm, sp, gd, rf, ct, rd, sm, js, sn, wl) g) := hD
      refine vx_catch (own := RL) (name := "java/lang/IllegalStateException") (E := "java/lang/IllegalStateException") hown [⟨0, 9, 12, 13⟩] ⟨0, 9, 15, 25⟩ [] (by rw [hTab]; rfl) (by
          intro z hz
          rcases List.mem_cons.mp hz with rfl | hz
          · exact Or.inr ⟨by decide, "java/lang/IndexOutOfBoundsException", hts (.classLink RL 13 "java/lang/IndexOutOfBoundsException") (by decide +kernel), hE.nc ("java/lang/IllegalStateException", "java/lang/IndexOutOfBoundsException") (by decide +kernel)⟩
          cases hz) (by decide) (by decide) (hE.t m_275 rfl) (hE.t m_283 rfl) hce hcv hcl ?_
      refine lv_astore_n (lv' := [(3, .ref q9), (0, .ref (a 0)), (1, .int k), (2, .ref o)]) hx hb dL_begun_15 rfl hl (by decide) rfl (fun ls hl => ?_)
      refine lv_iconst (v := 2) hx hb dL_begun_16 (by decide) ?_
      exact W.iret (v := 2) hx hb hr (fun t ht hW => ⟨⟨2, ((n, wk, sd, bt, lt, lo, rk, ad, vl, bg, cm, sp, gd, rf, ct, rd, sm, js, sn, wl), g), rfl, ⟨by rw [hf9], by rw [hf9], by rw [hf9]; simp⟩, by rw [ht]; exact hP, va_K.moved hW.alike hK, hD⟩, hS.F ht⟩) hS.2.2 dL_begun_17
  · skip
    obtain ⟨hP1, -, hD1⟩ := hB
    rw [ht] at hP1
    obtain ⟨hPo, hD⟩ := jnL (Q := [(o, .inl (cL, 1, .inr (.inl g)))]) (P := wX c0 a (n, wk, sd, bt, lt, lo, rk, ad, vl, bg, cm, sp, gd, rf, ct, rd, sm, js, sn, wl)) hPo hD hk1 hD1 hFx
    have hP := hPo.app hP1
    have hP : va_P (dC, dI) vwCl (WO c0 cL a o u g) H1 := hP
    have hD : va_D A (WO c0 cL a o u g) := hD
    generalize H1 = H at hP hS ⊢
    refine lv_i2l hx hb dL_begun_7 (v := r.toInt64) rfl ?_
    refine va_last hx hb hK hP hD hS 0 1 rfl rfl in01 dL_begun_8 (fun H locs hP hD hS => ?_)
    rw [sb_cl0] at hP hD
    have hP : va_P (dC, dI) vwCl (WO c0 cL a o u (vp_updL g 0 r.toInt64)) H := hP
    have hD : va_D A (WO c0 cL a o u (vp_updL g 0 r.toInt64)) := hD
    refine lv_goto (tgt := 18) hx hb dL_begun_9 (by decide) ?_
    refine lv_iconst (v := 0) hx hb dL_begun_18 (by decide) ?_
    exact W.iret (v := 0) hx hb hr (fun t ht hW => ⟨⟨0, (u, vp_updL g 0 r.toInt64), rfl, ⟨by rw [hw], by rw [hw], by rw [hw]; simp⟩, by rw [ht]; exact hP, va_K.moved hW.alike hK, hD⟩, hS.F ht⟩) hS.2.2 dL_begun_19
set_option maxHeartbeats 4000000 in
set_option maxRecDepth 100000 in
/-- the law's steps -/
theorem c_L_steps (l : Launch) (hl9 : l.stackTraces = false) (dC : Nat → ClassId) (dI : Nat → Nat → Nat) (c0 cL : ClassId) (o : Nat) (g : Nat → Int64) (a : Nat → Nat) (sz : Nat) (uu : xS) (hok : xok uu) (k : Int32) : Met l yL_steps wsL_steps ({ frames := 8, cells := 2, slots := 12, locals := 128 }) (va_Pc [.ref (a 0), .int k, .ref o] (PW dC dI c0 cL a o uu g sz)) (va_Qi (fun (r : Int32) (v9 : xS × (Nat → Int64)) => r = (f_steps uu k).1 ∧ v9.1 = (f_steps uu k).2.2 ∧ v9.2 = if (f_steps uu k).1 = 0 then vp_updL g 0 (f_steps uu k).2.1 else g) (fun (v9 : xS × (Nat → Int64)) t => va_P (dC, dI) vwCl (WO c0 cL a o v9.1 v9.2) t.heap ∧ va_K (dC, dI) vwCl [(c0, .int), (cL, .long)] t ∧ va_D (va_A (WO c0 cL a o uu g) sz) (WO c0 cL a o v9.1 v9.2)) (va_A (WO c0 cL a o uu g) sz)) 2 12 (va_A (WO c0 cL a o uu g) sz) := by
  obtain ⟨n, wk, sd, bt, lt, lo, rk, ad, vl, bg, cm, sp, gd, rf, ct, rd, sm, js, sn, wl⟩ := uu
  obtain ⟨hn, hct⟩ := hok
  refine va_MetW (cc := cL_steps) (maxL := 4) (ret := (some .int)) (hh := [(0, 9, 12, 13), (0, 9, 15, 25)]) (by decide) rfl ?_
  intro p e s m args below meth c s₁ B hml hv
  obtain ⟨rfl, hsz, hP, hK, hD0, hE⟩ := hv
  have hx := B.exec
  have hb := B.bytes
  have hr := B.returns
  have hown : s.vm.findClass RL = some m.cls := findClass_of_methodNamed B.named
  have hlocks := B.notSynchronized
  have hTab : c.exceptionTable.toList = tableOf [(0, 9, 12, 13), (0, 9, 15, 25)] := vx_table (x := yL_steps) B (hE.t m_407 rfl)
  subst hsz
  have hD := hD0.self (sz := s.heap.size)
  generalize hAe : va_A (WO c0 cL a o (n, wk, sd, bt, lt, lo, rk, ad, vl, bg, cm, sp, gd, rf, ct, rd, sm, js, sn, wl) g) s.heap.size = A at hD hE ⊢
  have hts := hE.ts (args := ([.ref (a 0), .int k, .ref o] : List Value).toArray)
  have hA : ∀ q : Nat, s.heap.size ≤ q → A q := fun q h => by rw [← hAe]; exact Or.inr h
  have hS : va_S A s.heap s.heap [] := va_S.rf
  have hP : va_P (dC, dI) vwCl (WO c0 cL a o (n, wk, sd, bt, lt, lo, rk, ad, vl, bg, cm, sp, gd, rf, ct, rd, sm, js, sn, wl) g) s.heap := hP
  have hl := lv_entry ([.ref (a 0), .int k, .ref o]) (n := 4) (Nat.le_of_ble_eq_true rfl)
  rw [lg_entry_eq]
  generalize (lg_sl ([.ref (a 0), .int k, .ref o]) ++ List.replicate (4 - (lg_sl ([.ref (a 0), .int k, .ref o])).length) Slot.unset).toArray = ls at hl ⊢
  have hl : lv_has ls 4 [(0, .ref (a 0)), (1, .int k), (2, .ref o)] := hl
  refine lv_aload_n hx hb dL_steps_0 rfl (lv_at hl 2 rfl) ?_
  refine lv_iconst (v := 0) hx hb dL_steps_1 (by decide) ?_
  refine lv_aload_n hx hb dL_steps_2 rfl (lv_at hl 0 rfl) ?_
  refine lv_iload_n hx hb dL_steps_3 rfl (lv_at hl 1 rfl) ?_
  have hPx := hP.sub (ws' := wX c0 a (n, wk, sd, bt, lt, lo, rk, ad, vl, bg, cm, sp, gd, rf, ct, rd, sm, js, sn, wl)) [1, 2, 3, 4, 5, 6, 7, 8, 9, 10, 11, 12, 13, 14] rfl
  have hDx := hD.sub (ws' := wX c0 a (n, wk, sd, bt, lt, lo, rk, ad, vl, bg, cm, sp, gd, rf, ct, rd, sm, js, sn, wl)) [1, 2, 3, 4, 5, 6, 7, 8, 9, 10, 11, 12, 13, 14] (by decide) rfl
  have hKx := hK.sub (tys' := [(c0, .int)]) [0] rfl
  have hPo := hP.sub (ws' := [(o, .inl (cL, 1, .inr (.inl g)))]) [0] rfl
  have hFx := fre hDx hS hA
  refine vx_calli (vx_runV (As := [.int k]) (rest := [.int 0, .ref o]) ⟨hx, hb, hml, hown, hts⟩ (c_X0_steps l hl9 dC dI c0 a _ n wk sd bt lt lo rk ad vl bg cm sp gd rf ct rd sm js sn wl k hn) (cwV 1 hts gL_steps_X0_steps rfl rfl rfl (by decide +kernel) ⟨(Nat.le_of_ble_eq_true rfl), (Nat.le_of_ble_eq_true rfl)⟩) ⟨PX_blind, va_recv hKx hPx (ci := 0) (q0 := 0) rfl rfl, PX_give hPx hKx hDx hE hS hFx⟩ rfl rfl hl.1 rfl (lv_room (Nat.le_of_ble_eq_true rfl)) dL_steps_4 ⟨by decide, by decide⟩) hS (fun q _ h => hFx q h) hFx (fun q _ h => hFx q h) (fun E ce q9 u t H1 locs ht hvm hw hB hz1 hk1 hS hce hcv hcl => ?_) (fun r u t H1 locs ht hvm hw hB hz1 hk1 hS => ?_)
  · skip
    obtain ⟨hEE, hB⟩ := hB
    obtain ⟨hP1, -, hD1⟩ := hB
    rw [ht] at hP1
    obtain ⟨hPo, hD⟩ := jnL (Q := [(o, .inl (cL, 1, .inr (.inl g)))]) (P := wX c0 a (n, wk, sd, bt, lt, lo, rk, ad, vl, bg, cm, sp, gd, rf, ct, rd, sm, js, sn, wl)) hPo hD hk1 hD1 hFx
    have hP := hPo.app hP1
    rcases hEE with ⟨rfl, hf9⟩ | ⟨rfl, hf9⟩
    · skip
      have hP : va_P (dC, dI) vwCl (WO c0 cL a o (n, wk, sd, bt, lt, lo, rk, ad, vl, bg, cm, sp, gd, rf, ct, rd, sm, js, sn, wl) g) H1 := hP
      have hD : va_D A (WO c0 cL a o (n, wk, sd, bt, lt, lo, rk, ad, vl, bg, cm, sp, gd, rf, ct, rd, sm, js, sn, wl) g) := hD
      refine vx_catch (own := RL) (name := "java/lang/IndexOutOfBoundsException") (E := "java/lang/IndexOutOfBoundsException") hown [] ⟨0, 9, 12, 13⟩ [⟨0, 9, 15, 25⟩] (by rw [hTab]; rfl) (fun z hz => nomatch hz) (by decide) (by decide) (hE.t m_168 rfl) (hE.t m_180 rfl) hce hcv hcl ?_
      refine lv_astore_n (lv' := [(3, .ref q9), (0, .ref (a 0)), (1, .int k), (2, .ref o)]) hx hb dL_steps_12 rfl hl (by decide) rfl (fun ls hl => ?_)
      refine lv_iconst (v := 1) hx hb dL_steps_13 (by decide) ?_
      exact W.iret (v := 1) hx hb hr (fun t ht hW => ⟨⟨1, ((n, wk, sd, bt, lt, lo, rk, ad, vl, bg, cm, sp, gd, rf, ct, rd, sm, js, sn, wl), g), rfl, ⟨by rw [hf9], by rw [hf9], by rw [hf9]; simp⟩, by rw [ht]; exact hP, va_K.moved hW.alike hK, hD⟩, hS.F ht⟩) hS.2.2 dL_steps_14
    · skip
      have hP : va_P (dC, dI) vwCl (WO c0 cL a o (n, wk, sd, bt, lt, lo, rk, ad, vl, bg, cm, sp, gd, rf, ct, rd, sm, js, sn, wl) g) H1 := hP
      have hD : va_D A (WO c0 cL a o (n, wk, sd, bt, lt, lo, rk, ad, vl, bg, cm, sp, gd, rf, ct, rd, sm, js, sn, wl) g) := hD
      refine vx_catch (own := RL) (name := "java/lang/IllegalStateException") (E := "java/lang/IllegalStateException") hown [⟨0, 9, 12, 13⟩] ⟨0, 9, 15, 25⟩ [] (by rw [hTab]; rfl) (by
          intro z hz
          rcases List.mem_cons.mp hz with rfl | hz
          · exact Or.inr ⟨by decide, "java/lang/IndexOutOfBoundsException", hts (.classLink RL 13 "java/lang/IndexOutOfBoundsException") (by decide +kernel), hE.nc ("java/lang/IllegalStateException", "java/lang/IndexOutOfBoundsException") (by decide +kernel)⟩
          cases hz) (by decide) (by decide) (hE.t m_275 rfl) (hE.t m_283 rfl) hce hcv hcl ?_
      refine lv_astore_n (lv' := [(3, .ref q9), (0, .ref (a 0)), (1, .int k), (2, .ref o)]) hx hb dL_steps_15 rfl hl (by decide) rfl (fun ls hl => ?_)
      refine lv_iconst (v := 2) hx hb dL_steps_16 (by decide) ?_
      exact W.iret (v := 2) hx hb hr (fun t ht hW => ⟨⟨2, ((n, wk, sd, bt, lt, lo, rk, ad, vl, bg, cm, sp, gd, rf, ct, rd, sm, js, sn, wl), g), rfl, ⟨by rw [hf9], by rw [hf9], by rw [hf9]; simp⟩, by rw [ht]; exact hP, va_K.moved hW.alike hK, hD⟩, hS.F ht⟩) hS.2.2 dL_steps_17
  · skip
    obtain ⟨hP1, -, hD1⟩ := hB
    rw [ht] at hP1
    obtain ⟨hPo, hD⟩ := jnL (Q := [(o, .inl (cL, 1, .inr (.inl g)))]) (P := wX c0 a (n, wk, sd, bt, lt, lo, rk, ad, vl, bg, cm, sp, gd, rf, ct, rd, sm, js, sn, wl)) hPo hD hk1 hD1 hFx
    have hP := hPo.app hP1
    have hP : va_P (dC, dI) vwCl (WO c0 cL a o u g) H1 := hP
    have hD : va_D A (WO c0 cL a o u g) := hD
    generalize H1 = H at hP hS ⊢
    refine lv_i2l hx hb dL_steps_7 (v := r.toInt64) rfl ?_
    refine va_last hx hb hK hP hD hS 0 1 rfl rfl in01 dL_steps_8 (fun H locs hP hD hS => ?_)
    rw [sb_cl0] at hP hD
    have hP : va_P (dC, dI) vwCl (WO c0 cL a o u (vp_updL g 0 r.toInt64)) H := hP
    have hD : va_D A (WO c0 cL a o u (vp_updL g 0 r.toInt64)) := hD
    refine lv_goto (tgt := 18) hx hb dL_steps_9 (by decide) ?_
    refine lv_iconst (v := 0) hx hb dL_steps_18 (by decide) ?_
    exact W.iret (v := 0) hx hb hr (fun t ht hW => ⟨⟨0, (u, vp_updL g 0 r.toInt64), rfl, ⟨by rw [hw], by rw [hw], by rw [hw]; simp⟩, by rw [ht]; exact hP, va_K.moved hW.alike hK, hD⟩, hS.F ht⟩) hS.2.2 dL_steps_19
set_option maxHeartbeats 4000000 in
set_option maxRecDepth 100000 in
/-- the law's count -/
theorem c_L_count (l : Launch) (hl9 : l.stackTraces = false) (dC : Nat → ClassId) (dI : Nat → Nat → Nat) (c0 cL : ClassId) (o : Nat) (g : Nat → Int64) (a : Nat → Nat) (sz : Nat) (uu : xS) (hok : xok uu) (k : Int32) : Met l yL_count wsL_count ({ frames := 8, cells := 1, slots := 6, locals := 128 }) (va_Pc [.ref (a 0), .int k, .ref o] (PW dC dI c0 cL a o uu g sz)) (va_Qi (fun (r : Int32) (v9 : xS × (Nat → Int64)) => r = (f_count uu k).1 ∧ v9.1 = (f_count uu k).2.2 ∧ v9.2 = if (f_count uu k).1 = 0 then vp_updL g 0 (f_count uu k).2.1 else g) (fun (v9 : xS × (Nat → Int64)) t => va_P (dC, dI) vwCl (WO c0 cL a o v9.1 v9.2) t.heap ∧ va_K (dC, dI) vwCl [(c0, .int), (cL, .long)] t ∧ va_D (va_A (WO c0 cL a o uu g) sz) (WO c0 cL a o v9.1 v9.2)) (va_A (WO c0 cL a o uu g) sz)) 1 6 (va_A (WO c0 cL a o uu g) sz) := by
  obtain ⟨n, wk, sd, bt, lt, lo, rk, ad, vl, bg, cm, sp, gd, rf, ct, rd, sm, js, sn, wl⟩ := uu
  obtain ⟨hn, hct⟩ := hok
  refine va_MetW (cc := cL_count) (maxL := 4) (ret := (some .int)) (hh := [(0, 9, 12, 13)]) (by decide) rfl ?_
  intro p e s m args below meth c s₁ B hml hv
  obtain ⟨rfl, hsz, hP, hK, hD0, hE⟩ := hv
  have hx := B.exec
  have hb := B.bytes
  have hr := B.returns
  have hown : s.vm.findClass RL = some m.cls := findClass_of_methodNamed B.named
  have hlocks := B.notSynchronized
  have hTab : c.exceptionTable.toList = tableOf [(0, 9, 12, 13)] := vx_table (x := yL_count) B (hE.t m_415 rfl)
  subst hsz
  have hD := hD0.self (sz := s.heap.size)
  generalize hAe : va_A (WO c0 cL a o (n, wk, sd, bt, lt, lo, rk, ad, vl, bg, cm, sp, gd, rf, ct, rd, sm, js, sn, wl) g) s.heap.size = A at hD hE ⊢
  have hts := hE.ts (args := ([.ref (a 0), .int k, .ref o] : List Value).toArray)
  have hA : ∀ q : Nat, s.heap.size ≤ q → A q := fun q h => by rw [← hAe]; exact Or.inr h
  have hS : va_S A s.heap s.heap [] := va_S.rf
  have hP : va_P (dC, dI) vwCl (WO c0 cL a o (n, wk, sd, bt, lt, lo, rk, ad, vl, bg, cm, sp, gd, rf, ct, rd, sm, js, sn, wl) g) s.heap := hP
  have hl := lv_entry ([.ref (a 0), .int k, .ref o]) (n := 4) (Nat.le_of_ble_eq_true rfl)
  rw [lg_entry_eq]
  generalize (lg_sl ([.ref (a 0), .int k, .ref o]) ++ List.replicate (4 - (lg_sl ([.ref (a 0), .int k, .ref o])).length) Slot.unset).toArray = ls at hl ⊢
  have hl : lv_has ls 4 [(0, .ref (a 0)), (1, .int k), (2, .ref o)] := hl
  refine lv_aload_n hx hb dL_count_0 rfl (lv_at hl 2 rfl) ?_
  refine lv_iconst (v := 0) hx hb dL_count_1 (by decide) ?_
  refine lv_aload_n hx hb dL_count_2 rfl (lv_at hl 0 rfl) ?_
  refine lv_iload_n hx hb dL_count_3 rfl (lv_at hl 1 rfl) ?_
  have hPx := hP.sub (ws' := wX c0 a (n, wk, sd, bt, lt, lo, rk, ad, vl, bg, cm, sp, gd, rf, ct, rd, sm, js, sn, wl)) [1, 2, 3, 4, 5, 6, 7, 8, 9, 10, 11, 12, 13, 14] rfl
  have hDx := hD.sub (ws' := wX c0 a (n, wk, sd, bt, lt, lo, rk, ad, vl, bg, cm, sp, gd, rf, ct, rd, sm, js, sn, wl)) [1, 2, 3, 4, 5, 6, 7, 8, 9, 10, 11, 12, 13, 14] (by decide) rfl
  have hKx := hK.sub (tys' := [(c0, .int)]) [0] rfl
  have hPo := hP.sub (ws' := [(o, .inl (cL, 1, .inr (.inl g)))]) [0] rfl
  have hFx := fre hDx hS hA
  refine vx_calli (vx_runV (As := [.int k]) (rest := [.int 0, .ref o]) ⟨hx, hb, hml, hown, hts⟩ (c_X0_count l hl9 dC dI c0 a _ n wk sd bt lt lo rk ad vl bg cm sp gd rf ct rd sm js sn wl k hn) (cwV 1 hts gL_count_X0_count rfl rfl rfl (by decide +kernel) ⟨(Nat.le_of_ble_eq_true rfl), (Nat.le_of_ble_eq_true rfl)⟩) ⟨PX_blind, va_recv hKx hPx (ci := 0) (q0 := 0) rfl rfl, PX_give hPx hKx hDx hE hS hFx⟩ rfl rfl hl.1 rfl (lv_room (Nat.le_of_ble_eq_true rfl)) dL_count_4 ⟨by decide, by decide⟩) hS (fun q _ h => hFx q h) hFx (fun q _ h => hFx q h) (fun E ce q9 u t H1 locs ht hvm hw hB hz1 hk1 hS hce hcv hcl => ?_) (fun r u t H1 locs ht hvm hw hB hz1 hk1 hS => ?_)
  · skip
    obtain ⟨hEE, hB⟩ := hB
    obtain ⟨hP1, -, hD1⟩ := hB
    rw [ht] at hP1
    obtain ⟨hPo, hD⟩ := jnL (Q := [(o, .inl (cL, 1, .inr (.inl g)))]) (P := wX c0 a (n, wk, sd, bt, lt, lo, rk, ad, vl, bg, cm, sp, gd, rf, ct, rd, sm, js, sn, wl)) hPo hD hk1 hD1 hFx
    have hP := hPo.app hP1
    obtain ⟨rfl, hf9⟩ := hEE
    have hP : va_P (dC, dI) vwCl (WO c0 cL a o (n, wk, sd, bt, lt, lo, rk, ad, vl, bg, cm, sp, gd, rf, ct, rd, sm, js, sn, wl) g) H1 := hP
    have hD : va_D A (WO c0 cL a o (n, wk, sd, bt, lt, lo, rk, ad, vl, bg, cm, sp, gd, rf, ct, rd, sm, js, sn, wl) g) := hD
    refine vx_catch (own := RL) (name := "java/lang/IndexOutOfBoundsException") (E := "java/lang/IndexOutOfBoundsException") hown [] ⟨0, 9, 12, 13⟩ [] (by rw [hTab]; rfl) (fun z hz => nomatch hz) (by decide) (by decide) (hE.t m_168 rfl) (hE.t m_180 rfl) hce hcv hcl ?_
    refine lv_astore_n (lv' := [(3, .ref q9), (0, .ref (a 0)), (1, .int k), (2, .ref o)]) hx hb dL_count_12 rfl hl (by decide) rfl (fun ls hl => ?_)
    refine lv_iconst (v := 1) hx hb dL_count_13 (by decide) ?_
    exact W.iret (v := 1) hx hb hr (fun t ht hW => ⟨⟨1, ((n, wk, sd, bt, lt, lo, rk, ad, vl, bg, cm, sp, gd, rf, ct, rd, sm, js, sn, wl), g), rfl, ⟨by rw [hf9], by rw [hf9], by rw [hf9]; simp⟩, by rw [ht]; exact hP, va_K.moved hW.alike hK, hD⟩, hS.F ht⟩) hS.2.2 dL_count_14
  · skip
    obtain ⟨hP1, -, hD1⟩ := hB
    rw [ht] at hP1
    obtain ⟨hPo, hD⟩ := jnL (Q := [(o, .inl (cL, 1, .inr (.inl g)))]) (P := wX c0 a (n, wk, sd, bt, lt, lo, rk, ad, vl, bg, cm, sp, gd, rf, ct, rd, sm, js, sn, wl)) hPo hD hk1 hD1 hFx
    have hP := hPo.app hP1
    have hP : va_P (dC, dI) vwCl (WO c0 cL a o u g) H1 := hP
    have hD : va_D A (WO c0 cL a o u g) := hD
    generalize H1 = H at hP hS ⊢
    refine lv_i2l hx hb dL_count_7 (v := r.toInt64) rfl ?_
    refine va_last hx hb hK hP hD hS 0 1 rfl rfl in01 dL_count_8 (fun H locs hP hD hS => ?_)
    rw [sb_cl0] at hP hD
    have hP : va_P (dC, dI) vwCl (WO c0 cL a o u (vp_updL g 0 r.toInt64)) H := hP
    have hD : va_D A (WO c0 cL a o u (vp_updL g 0 r.toInt64)) := hD
    refine lv_goto (tgt := 15) hx hb dL_count_9 (by decide) ?_
    refine lv_iconst (v := 0) hx hb dL_count_15 (by decide) ?_
    exact W.iret (v := 0) hx hb hr (fun t ht hW => ⟨⟨0, (u, vp_updL g 0 r.toInt64), rfl, ⟨by rw [hw], by rw [hw], by rw [hw]; simp⟩, by rw [ht]; exact hP, va_K.moved hW.alike hK, hD⟩, hS.F ht⟩) hS.2.2 dL_count_16
end
section
/-! ===== the reference: its state, what its methods work out ===== -/
abbrev mS : Type := Int32 × Nat × (Nat → Int32) × (Nat → Int32) × (Nat → Int32) × (Nat → Int32) × (Nat → Int32) × Nat × (Nat → Int32) × (Nat → Int32) × Int32 × Int32 × Int32 × Int64 × Int32 × Int32 × Int32 × (Nat → Int32) × (Nat → Int32) × (Nat → Int32)
/-- the reference's eleven cells -/
abbrev wM (c0 : ClassId) (a : Nat → Nat) (u : mS) : va_W := match u with
  | (th, n, wk, sd, bt, lt, lo, ct, rk, ad, sp, gd, rf, sm, js, sn, wl, vl, bg, cm) => [
    (a 0, .inr (4, [.int th, .int (nI n), .ref (a 1), .ref (a 2), .ref (a 3), .ref (a 4), .ref (a 5), .int (nI ct), .ref (a 6), .ref (a 7), .int sp, .int gd, .int rf, .long sm, .int js, .int sn, .int wl, .ref (a 8), .ref (a 9), .ref (a 10)])),
    (a 1, .inl (c0, 40, .inl wk)),
    (a 2, .inl (c0, 40, .inl sd)),
    (a 3, .inl (c0, 40, .inl bt)),
    (a 4, .inl (c0, 40, .inl lt)),
    (a 5, .inl (c0, 40, .inl lo)),
    (a 6, .inl (c0, 24, .inl rk)),
    (a 7, .inl (c0, 24, .inl ad)),
    (a 8, .inl (c0, 40, .inl vl)),
    (a 9, .inl (c0, 40, .inl bg)),
    (a 10, .inl (c0, 24, .inl cm))]
abbrev PM (dC : Nat → ClassId) (dI : Nat → Nat → Nat) (c0 : ClassId) (a : Nat → Nat) (u : mS) (sz : Nat) : State → Prop := fun U => U.heap.size = sz ∧ va_P (dC, dI) vwCl (wM c0 a u) U.heap ∧ va_K (dC, dI) vwCl [(c0, .int)] U ∧ va_D (fun _ => True) (wM c0 a u) ∧ EV (va_A (wM c0 a u) sz) U U.heap
abbrev BM (dC : Nat → ClassId) (dI : Nat → Nat → Nat) (c0 : ClassId) (a : Nat → Nat) (A : Nat → Prop) (u : mS) (t : State) : Prop := va_P (dC, dI) vwCl (wM c0 a u) t.heap ∧ va_K (dC, dI) vwCl [(c0, .int)] t ∧ va_D A (wM c0 a u)
theorem PM_blind {dC : Nat → ClassId} {dI : Nat → Nat → Nat} {c0 : ClassId} {a : Nat → Nat} {u : mS} {sz : Nat} {av : List Value} : FrameBlind (va_Pc av (PM dC dI c0 a u sz)) := fun a U g mk q => by
  obtain ⟨q0, q1, q2, q3, q4, q5⟩ := q
  exact ⟨q0, q1, q2, va_K.moved (u := U) (U := U.calling g mk a) (Vm.Alike.refl U.vm) q3, q4, q5.calling g mk a⟩
theorem PM_give {dC : Nat → ClassId} {dI : Nat → Nat → Nat} {c0 : ClassId} {a : Nat → Nat} {u : mS} {s : State} {H : Heap} {A : Nat → Prop} {locs : List Loc} {av : List Value} (hP : va_P (dC, dI) vwCl (wM c0 a u) H) (hK : va_K (dC, dI) vwCl [(c0, .int)] s) (hD : va_D A (wM c0 a u)) (hE : EV A s s.heap) (hS : va_S A s.heap H locs) (hF : ∀ q, va_A (wM c0 a u) H.size q → A q) : ∀ U : State, U.heap = H → s.WarmedH U.vm → va_Pc av (PM dC dI c0 a u H.size) av.toArray U := fun U hU hW =>
  ⟨rfl, by rw [hU], by rw [hU]; exact hP, va_K.moved hW.alike hK, hD.weaken (fun _ _ _ _ => trivial), hE.give hS hF hU hW⟩
theorem PM_take {dC : Nat → ClassId} {dI : Nat → Nat → Nat} {c0 : ClassId} {a : Nat → Nat} {u : mS} {t : State} {H1 : Heap} {A B : Nat → Prop} (ht : t.heap = H1) (hF : ∀ q, B q → A q) (hB : BM dC dI c0 a B u t) : va_P (dC, dI) vwCl (wM c0 a u) H1 ∧ va_D A (wM c0 a u) := by
  obtain ⟨h1, -, h3⟩ := hB
  rw [ht] at h1
  exact ⟨h1, h3.weaken (fun _ q _ h => hF q.1 h)⟩
def isS (n : Nat) (k : Int32) : Int32 := if k < 0 then 0 else if nI n ≤ k then 0 else 1
def inn (v x y : Int32) : Int32 := if v < x then 0 else if y < v then 0 else 1
def nn (gd : Int32) : Int32 := if gd = 0 then 1 else 0
def rft (b gd : Int32) : Int32 := if b = 0 then 1 else if gd = 0 then 2 else 0
def rfr (b gd : Int32) : Int32 := if rft b gd ≤ 0 then 0 else 1
def stm (b v : Int32) : Int32 := if b ≤ 0 then 0 else if v - v / (1 <<< (b &&& 31)) * (1 <<< (b &&& 31)) = 0 then 1 else 0
def swm (wk lt lo : Nat → Int32) (j : Nat) : Int32 := wk j + (lo j * (if wk j ≤ lt j then wk j else lt j))
def jnM (bt rk ad vl m0 : Nat → Int32) (ct n : Nat) (z : Int32) : Nat → Nat → Int32 × Int64 × (Nat → Int32) × Nat
  | 0, k => (-1, linS rk ad (nI n) (jnS rk ad vl ct k) ct, linC rk (nI n) (jnC rk ct m0 k) ct, k)
  | f + 1, k => if nI k = z then (-1, jnS rk ad vl ct k, jnC rk ct m0 k, k) else if stm (bt k) (vl k) = 0 then jnM bt rk ad vl m0 ct n z f (k + 1) else (nI k, jnS rk ad vl ct (k + 1), jnC rk ct m0 (k + 1), k + 1)
theorem isS_in {n : Nat} {k : Int32} (h : ¬ isS n k = 0) (hn : n < 2 ^ 31) : vp_in k n := by
  unfold isS at h
  by_cases h1 : k < 0
  · rw [if_pos h1] at h; exact absurd rfl h
  · rw [if_neg h1] at h
    by_cases h2 : nI n ≤ k
    · rw [if_pos h2] at h; exact absurd rfl h
    · exact in_of h1 (Int32.not_le.mp h2) hn
theorem rfr_b {b gd : Int32} (h : rfr b gd = 0) : ¬ b = 0 := by
  intro e
  unfold rfr rft at h
  rw [if_pos e] at h
  revert h
  decide
theorem rfr_in {n : Nat} {k gd : Int32} (h : rfr (isS n k) gd = 0) (hn : n < 2 ^ 31) : vp_in k n := isS_in (rfr_b h) hn
theorem nI_m1 {c : Nat} (h : 0 < c) : nI c - 1 = nI (c - 1) := by
  obtain ⟨d, rfl⟩ : ∃ d, c = d + 1 := ⟨c - 1, by omega⟩
  rw [nI_pred]; rfl
theorem rfi_in {c : Nat} {k gd : Int32} (h : rfr (inn k 0 (nI c - 1)) gd = 0) (hc : c < 2 ^ 31) : vp_in k c := by
  have h := rfr_b h
  unfold inn at h
  by_cases h1 : k < 0
  · rw [if_pos h1] at h; exact absurd rfl h
  · rw [if_neg h1] at h
    by_cases h2 : nI c - 1 < k
    · rw [if_pos h2] at h; exact absurd rfl h
    · obtain ⟨j, hj, rfl⟩ := nI_of h1
      rcases Nat.eq_zero_or_pos c with rfl | hc0
      · exfalso
        apply h2
        rw [nI_0]
        have e : ((0 : Int32) - 1).toInt = -1 := by decide
        rw [Int32.lt_iff_toInt_lt, e, nI_toInt hj]; omega
      · rw [nI_m1 hc0] at h2
        have : ¬ c - 1 < j := fun q => h2 (nI_lt q hj)
        exact vp_in_nI (by omega) hc
theorem ct_ne {c : Nat} (h : c ≤ 24) (h2 : ¬ nI c = 24) : c < 24 := by
  rcases Nat.lt_or_ge c 24 with q | q
  · exact q
  · exact absurd (by rw [show c = 24 by omega]; rfl) h2
theorem sh_all : ∀ j : Fin 32, ¬ (1 : Int32) <<< (nI j.val) = 0 := by decide +kernel
theorem sh_ne (b : Int32) : ¬ (1 : Int32) <<< (b &&& 31) = 0 := by
  obtain ⟨j, hj, e⟩ := pk_andE b (m := 31) 5 (by decide)
  rw [e]
  exact sh_all ⟨j, hj⟩
/-! the reference's face: (the answer, the state behind it) -/
def m_share (u : mS) (k w x b : Int32) : Int32 × mS := match u with
  | (th, n, wk, sd, bt, lt, lo, ct, rk, ad, sp, gd, rf, sm, js, sn, wl, vl, bg, cm) => if isS n k = 0 then (0, (1, n, wk, sd, bt, lt, lo, ct, rk, ad, sp, gd, rf, sm, js, sn, wl, vl, bg, cm)) else if inn w 1 30 = 0 then (0, (2, n, wk, sd, bt, lt, lo, ct, rk, ad, sp, gd, rf, sm, js, sn, wl, vl, bg, cm)) else if inn b 0 8 = 0 then (0, (2, n, wk, sd, bt, lt, lo, ct, rk, ad, sp, gd, rf, sm, js, sn, wl, vl, bg, cm)) else (wk k.toNatClampNeg, (0, n, upd wk k.toNatClampNeg w, upd sd k.toNatClampNeg x, upd bt k.toNatClampNeg b, lt, lo, ct, rk, ad, sp, gd, rf, sm, js, sn, wl, vl, bg, cm))
def m_fails (u : mS) (k w x : Int32) : Int32 × mS := match u with
  | (th, n, wk, sd, bt, lt, lo, ct, rk, ad, sp, gd, rf, sm, js, sn, wl, vl, bg, cm) => if isS n k = 0 then (0, (1, n, wk, sd, bt, lt, lo, ct, rk, ad, sp, gd, rf, sm, js, sn, wl, vl, bg, cm)) else if inn w 1 30 = 0 then (0, (2, n, wk, sd, bt, lt, lo, ct, rk, ad, sp, gd, rf, sm, js, sn, wl, vl, bg, cm)) else if inn x 0 4 = 0 then (0, (2, n, wk, sd, bt, lt, lo, ct, rk, ad, sp, gd, rf, sm, js, sn, wl, vl, bg, cm)) else (lo k.toNatClampNeg, (0, n, wk, sd, bt, upd lt k.toNatClampNeg w, upd lo k.toNatClampNeg x, ct, rk, ad, sp, gd, rf, sm, js, sn, wl, vl, bg, cm))
def m_act (u : mS) (k v : Int32) : Int32 × mS := match u with
  | (th, n, wk, sd, bt, lt, lo, ct, rk, ad, sp, gd, rf, sm, js, sn, wl, vl, bg, cm) => if inn k 0 (nI n) = 0 then (0, (1, n, wk, sd, bt, lt, lo, ct, rk, ad, sp, gd, rf, sm, js, sn, wl, vl, bg, cm)) else if nI ct = 24 then (0, (2, n, wk, sd, bt, lt, lo, ct, rk, ad, sp, gd, rf, sm, js, sn, wl, vl, bg, cm)) else (nI ct, (0, n, wk, sd, bt, lt, lo, ct + 1, upd rk ct k, upd ad ct v, sp, gd, rf, sm, js, sn, wl, vl, bg, cm))
def m_stop (u : mS) (k : Int32) : Int32 × mS := match u with
  | (th, n, wk, sd, bt, lt, lo, ct, rk, ad, sp, gd, rf, sm, js, sn, wl, vl, bg, cm) => if k = -1 then (sp, (0, n, wk, sd, bt, lt, lo, ct, rk, ad, k, gd, rf, sm, js, sn, wl, vl, bg, cm)) else if isS n k = 0 then (0, (1, n, wk, sd, bt, lt, lo, ct, rk, ad, sp, gd, rf, sm, js, sn, wl, vl, bg, cm)) else (sp, (0, n, wk, sd, bt, lt, lo, ct, rk, ad, k, gd, rf, sm, js, sn, wl, vl, bg, cm))
def m_run (u : mS) (w _y : Int32) : Int32 × mS := match u with
  | (th, n, wk, sd, bt, lt, lo, ct, rk, ad, sp, gd, rf, sm, js, sn, wl, vl, bg, cm) => if inn w 1 6 = 0 then (0, (1, n, wk, sd, bt, lt, lo, ct, rk, ad, sp, gd, rf, sm, js, sn, wl, vl, bg, cm)) else if sumL lo n < w then (match jnM bt rk ad (fil (fun j => vl9 (chx (sd j) (nI j) (wk j).toNatClampNeg)) vl n) (fil (fun _ => (-1)) cm 24) ct n sp n 0 with
      | (r, s9, c9, j9) => (r, (0, n, wk, sd, bt, lt, lo, ct, rk, ad, sp, gd + 1, rf, s9, nI j9, sumL (fun j => swm wk lt lo j) n, w - sumL lo n, fil (fun j => vl9 (chx (sd j) (nI j) (wk j).toNatClampNeg)) vl n, fil (fun j => 1 + lo j) bg n, c9)))
    else (-2, (0, n, wk, sd, bt, lt, lo, ct, rk, ad, sp, gd, rf + 1, sm, js, sn, wl, vl, bg, cm))
def m_joined (u : mS) : Int64 × mS := match u with
  | (th, n, wk, sd, bt, lt, lo, ct, rk, ad, sp, gd, rf, sm, js, sn, wl, vl, bg, cm) => if nn gd = 0 then (sm, (nn gd, n, wk, sd, bt, lt, lo, ct, rk, ad, sp, gd, rf, sm, js, sn, wl, vl, bg, cm)) else (0, (nn gd, n, wk, sd, bt, lt, lo, ct, rk, ad, sp, gd, rf, sm, js, sn, wl, vl, bg, cm))
def m_many (u : mS) : Int32 × mS := match u with
  | (th, n, wk, sd, bt, lt, lo, ct, rk, ad, sp, gd, rf, sm, js, sn, wl, vl, bg, cm) => if nn gd = 0 then (js, (nn gd, n, wk, sd, bt, lt, lo, ct, rk, ad, sp, gd, rf, sm, js, sn, wl, vl, bg, cm)) else (0, (nn gd, n, wk, sd, bt, lt, lo, ct, rk, ad, sp, gd, rf, sm, js, sn, wl, vl, bg, cm))
def m_value (u : mS) (k : Int32) : Int32 × mS := match u with
  | (th, n, wk, sd, bt, lt, lo, ct, rk, ad, sp, gd, rf, sm, js, sn, wl, vl, bg, cm) => if rfr (isS n k) gd = 0 then (vl k.toNatClampNeg, (rft (isS n k) gd, n, wk, sd, bt, lt, lo, ct, rk, ad, sp, gd, rf, sm, js, sn, wl, vl, bg, cm)) else (0, (rft (isS n k) gd, n, wk, sd, bt, lt, lo, ct, rk, ad, sp, gd, rf, sm, js, sn, wl, vl, bg, cm))
def m_chain (u : mS) (k w : Int32) : Int64 × mS := match u with
  | (th, n, wk, sd, bt, lt, lo, ct, rk, ad, sp, gd, rf, sm, js, sn, wl, vl, bg, cm) => if isS n k = 0 then (0, (1, n, wk, sd, bt, lt, lo, ct, rk, ad, sp, gd, rf, sm, js, sn, wl, vl, bg, cm)) else if inn w 0 (wk k.toNatClampNeg) = 0 then (0, (1, n, wk, sd, bt, lt, lo, ct, rk, ad, sp, gd, rf, sm, js, sn, wl, vl, bg, cm)) else (chx (sd k.toNatClampNeg) k w.toNatClampNeg, (0, n, wk, sd, bt, lt, lo, ct, rk, ad, sp, gd, rf, sm, js, sn, wl, vl, bg, cm))
def m_came (u : mS) (k : Int32) : Int32 × mS := match u with
  | (th, n, wk, sd, bt, lt, lo, ct, rk, ad, sp, gd, rf, sm, js, sn, wl, vl, bg, cm) => if rfr (inn k 0 (nI ct - 1)) gd = 0 then (cm k.toNatClampNeg, (rft (inn k 0 (nI ct - 1)) gd, n, wk, sd, bt, lt, lo, ct, rk, ad, sp, gd, rf, sm, js, sn, wl, vl, bg, cm)) else (0, (rft (inn k 0 (nI ct - 1)) gd, n, wk, sd, bt, lt, lo, ct, rk, ad, sp, gd, rf, sm, js, sn, wl, vl, bg, cm))
def m_begun (u : mS) (k : Int32) : Int32 × mS := match u with
  | (th, n, wk, sd, bt, lt, lo, ct, rk, ad, sp, gd, rf, sm, js, sn, wl, vl, bg, cm) => if rfr (isS n k) gd = 0 then (bg k.toNatClampNeg, (rft (isS n k) gd, n, wk, sd, bt, lt, lo, ct, rk, ad, sp, gd, rf, sm, js, sn, wl, vl, bg, cm)) else (0, (rft (isS n k) gd, n, wk, sd, bt, lt, lo, ct, rk, ad, sp, gd, rf, sm, js, sn, wl, vl, bg, cm))
def m_steps (u : mS) (k : Int32) : Int32 × mS := match u with
  | (th, n, wk, sd, bt, lt, lo, ct, rk, ad, sp, gd, rf, sm, js, sn, wl, vl, bg, cm) => if rfr (inn k 0 1) gd = 0 then (if k = 0 then (sn, (rft (inn k 0 1) gd, n, wk, sd, bt, lt, lo, ct, rk, ad, sp, gd, rf, sm, js, sn, wl, vl, bg, cm)) else (wl, (rft (inn k 0 1) gd, n, wk, sd, bt, lt, lo, ct, rk, ad, sp, gd, rf, sm, js, sn, wl, vl, bg, cm))) else (0, (rft (inn k 0 1) gd, n, wk, sd, bt, lt, lo, ct, rk, ad, sp, gd, rf, sm, js, sn, wl, vl, bg, cm))
def m_count (u : mS) (k : Int32) : Int32 × mS := match u with
  | (th, n, wk, sd, bt, lt, lo, ct, rk, ad, sp, gd, rf, sm, js, sn, wl, vl, bg, cm) => if inn k 0 3 = 0 then (0, (1, n, wk, sd, bt, lt, lo, ct, rk, ad, sp, gd, rf, sm, js, sn, wl, vl, bg, cm)) else if k = 0 then (nI n, (0, n, wk, sd, bt, lt, lo, ct, rk, ad, sp, gd, rf, sm, js, sn, wl, vl, bg, cm)) else if k = 1 then (nI ct, (0, n, wk, sd, bt, lt, lo, ct, rk, ad, sp, gd, rf, sm, js, sn, wl, vl, bg, cm)) else if k = 2 then (gd, (0, n, wk, sd, bt, lt, lo, ct, rk, ad, sp, gd, rf, sm, js, sn, wl, vl, bg, cm)) else (rf, (0, n, wk, sd, bt, lt, lo, ct, rk, ad, sp, gd, rf, sm, js, sn, wl, vl, bg, cm))
theorem gM0_share_M0_isShare : GoodIn lw_good (wsV RM0 50 RM0 yM0_isShare wsM0_isShare) := gm (List.forall_mem_cons.mpr ⟨⟨m_496, rfl⟩, List.forall_mem_cons.mpr ⟨⟨m_498, rfl⟩, List.forall_mem_cons.mpr ⟨⟨m_12, rfl⟩, List.forall_mem_cons.mpr ⟨⟨m_27, rfl⟩, List.forall_mem_cons.mpr ⟨⟨m_499, rfl⟩, fun _ h => absurd h List.not_mem_nil⟩⟩⟩⟩⟩)
theorem gM0_share_M0_in : GoodIn lw_good (va_wsS RM0 58 yM0_in wsM0_in) := gm (List.forall_mem_cons.mpr ⟨⟨m_504, rfl⟩, List.forall_mem_cons.mpr ⟨⟨m_505, rfl⟩, List.forall_mem_cons.mpr ⟨⟨m_27, rfl⟩, List.forall_mem_cons.mpr ⟨⟨m_506, rfl⟩, fun _ h => absurd h List.not_mem_nil⟩⟩⟩⟩)
theorem gM0_share_M0_refuse : GoodIn lw_good (wsV RM0 54 RM0 yM0_refuse wsM0_refuse) := gm (List.forall_mem_cons.mpr ⟨⟨m_500, rfl⟩, List.forall_mem_cons.mpr ⟨⟨m_502, rfl⟩, List.forall_mem_cons.mpr ⟨⟨m_13, rfl⟩, List.forall_mem_cons.mpr ⟨⟨m_27, rfl⟩, List.forall_mem_cons.mpr ⟨⟨m_503, rfl⟩, fun _ h => absurd h List.not_mem_nil⟩⟩⟩⟩⟩)
theorem gM0_fails_M0_isShare : GoodIn lw_good (wsV RM0 50 RM0 yM0_isShare wsM0_isShare) := gm (List.forall_mem_cons.mpr ⟨⟨m_496, rfl⟩, List.forall_mem_cons.mpr ⟨⟨m_498, rfl⟩, List.forall_mem_cons.mpr ⟨⟨m_12, rfl⟩, List.forall_mem_cons.mpr ⟨⟨m_27, rfl⟩, List.forall_mem_cons.mpr ⟨⟨m_499, rfl⟩, fun _ h => absurd h List.not_mem_nil⟩⟩⟩⟩⟩)
theorem gM0_fails_M0_in : GoodIn lw_good (va_wsS RM0 58 yM0_in wsM0_in) := gm (List.forall_mem_cons.mpr ⟨⟨m_504, rfl⟩, List.forall_mem_cons.mpr ⟨⟨m_505, rfl⟩, List.forall_mem_cons.mpr ⟨⟨m_27, rfl⟩, List.forall_mem_cons.mpr ⟨⟨m_506, rfl⟩, fun _ h => absurd h List.not_mem_nil⟩⟩⟩⟩)
theorem gM0_fails_M0_refuse : GoodIn lw_good (wsV RM0 54 RM0 yM0_refuse wsM0_refuse) := gm (List.forall_mem_cons.mpr ⟨⟨m_500, rfl⟩, List.forall_mem_cons.mpr ⟨⟨m_502, rfl⟩, List.forall_mem_cons.mpr ⟨⟨m_13, rfl⟩, List.forall_mem_cons.mpr ⟨⟨m_27, rfl⟩, List.forall_mem_cons.mpr ⟨⟨m_503, rfl⟩, fun _ h => absurd h List.not_mem_nil⟩⟩⟩⟩⟩)
theorem gM0_act_M0_in : GoodIn lw_good (va_wsS RM0 58 yM0_in wsM0_in) := gm (List.forall_mem_cons.mpr ⟨⟨m_504, rfl⟩, List.forall_mem_cons.mpr ⟨⟨m_505, rfl⟩, List.forall_mem_cons.mpr ⟨⟨m_27, rfl⟩, List.forall_mem_cons.mpr ⟨⟨m_506, rfl⟩, fun _ h => absurd h List.not_mem_nil⟩⟩⟩⟩)
theorem gM0_act_M0_refuse : GoodIn lw_good (wsV RM0 54 RM0 yM0_refuse wsM0_refuse) := gm (List.forall_mem_cons.mpr ⟨⟨m_500, rfl⟩, List.forall_mem_cons.mpr ⟨⟨m_502, rfl⟩, List.forall_mem_cons.mpr ⟨⟨m_13, rfl⟩, List.forall_mem_cons.mpr ⟨⟨m_27, rfl⟩, List.forall_mem_cons.mpr ⟨⟨m_503, rfl⟩, fun _ h => absurd h List.not_mem_nil⟩⟩⟩⟩⟩)
theorem gM0_stop_M0_isShare : GoodIn lw_good (wsV RM0 50 RM0 yM0_isShare wsM0_isShare) := gm (List.forall_mem_cons.mpr ⟨⟨m_496, rfl⟩, List.forall_mem_cons.mpr ⟨⟨m_498, rfl⟩, List.forall_mem_cons.mpr ⟨⟨m_12, rfl⟩, List.forall_mem_cons.mpr ⟨⟨m_27, rfl⟩, List.forall_mem_cons.mpr ⟨⟨m_499, rfl⟩, fun _ h => absurd h List.not_mem_nil⟩⟩⟩⟩⟩)
theorem gM0_stop_M0_refuse : GoodIn lw_good (wsV RM0 54 RM0 yM0_refuse wsM0_refuse) := gm (List.forall_mem_cons.mpr ⟨⟨m_500, rfl⟩, List.forall_mem_cons.mpr ⟨⟨m_502, rfl⟩, List.forall_mem_cons.mpr ⟨⟨m_13, rfl⟩, List.forall_mem_cons.mpr ⟨⟨m_27, rfl⟩, List.forall_mem_cons.mpr ⟨⟨m_503, rfl⟩, fun _ h => absurd h List.not_mem_nil⟩⟩⟩⟩⟩)
theorem gM0_join_M0_acted : GoodIn lw_good (wsV RM0 80 RM0 yM0_acted wsM0_acted) := gm (List.forall_mem_cons.mpr ⟨⟨m_534, rfl⟩, List.forall_mem_cons.mpr ⟨⟨m_536, rfl⟩, List.forall_mem_cons.mpr ⟨⟨m_16, rfl⟩, List.forall_mem_cons.mpr ⟨⟨m_27, rfl⟩, List.forall_mem_cons.mpr ⟨⟨m_537, rfl⟩, fun _ h => absurd h List.not_mem_nil⟩⟩⟩⟩⟩)
theorem gM0_join_M0_settles : GoodIn lw_good (wsV RM0 86 RM0 yM0_settles wsM0_settles) := gm (List.forall_mem_cons.mpr ⟨⟨m_540, rfl⟩, List.forall_mem_cons.mpr ⟨⟨m_542, rfl⟩, List.forall_mem_cons.mpr ⟨⟨m_17, rfl⟩, List.forall_mem_cons.mpr ⟨⟨m_27, rfl⟩, List.forall_mem_cons.mpr ⟨⟨m_543, rfl⟩, fun _ h => absurd h List.not_mem_nil⟩⟩⟩⟩⟩)
theorem gM0_run_M0_in : GoodIn lw_good (va_wsS RM0 58 yM0_in wsM0_in) := gm (List.forall_mem_cons.mpr ⟨⟨m_504, rfl⟩, List.forall_mem_cons.mpr ⟨⟨m_505, rfl⟩, List.forall_mem_cons.mpr ⟨⟨m_27, rfl⟩, List.forall_mem_cons.mpr ⟨⟨m_506, rfl⟩, fun _ h => absurd h List.not_mem_nil⟩⟩⟩⟩)
theorem gM0_run_M0_join : GoodIn lw_good (wsV RM0 105 RM0 yM0_join wsM0_join) := gm (List.forall_mem_cons.mpr ⟨⟨m_530, rfl⟩, List.forall_mem_cons.mpr ⟨⟨m_532, rfl⟩, List.forall_mem_cons.mpr ⟨⟨m_15, rfl⟩, List.forall_mem_cons.mpr ⟨⟨m_27, rfl⟩, List.forall_mem_cons.mpr ⟨⟨m_533, rfl⟩, fun _ h => absurd h List.not_mem_nil⟩⟩⟩⟩⟩)
theorem gM0_run_M0_after : GoodIn lw_good (wsV RM0 101 RM0 yM0_after wsM0_after) := gm (List.forall_mem_cons.mpr ⟨⟨m_523, rfl⟩, List.forall_mem_cons.mpr ⟨⟨m_525, rfl⟩, List.forall_mem_cons.mpr ⟨⟨m_14, rfl⟩, List.forall_mem_cons.mpr ⟨⟨m_27, rfl⟩, List.forall_mem_cons.mpr ⟨⟨m_526, rfl⟩, fun _ h => absurd h List.not_mem_nil⟩⟩⟩⟩⟩)
theorem gM0_run_M0_refuse : GoodIn lw_good (wsV RM0 54 RM0 yM0_refuse wsM0_refuse) := gm (List.forall_mem_cons.mpr ⟨⟨m_500, rfl⟩, List.forall_mem_cons.mpr ⟨⟨m_502, rfl⟩, List.forall_mem_cons.mpr ⟨⟨m_13, rfl⟩, List.forall_mem_cons.mpr ⟨⟨m_27, rfl⟩, List.forall_mem_cons.mpr ⟨⟨m_503, rfl⟩, fun _ h => absurd h List.not_mem_nil⟩⟩⟩⟩⟩)
theorem gM0_joined_M0_isNone : GoodIn lw_good (wsV RM0 109 RM0 yM0_isNone wsM0_isNone) := gm (List.forall_mem_cons.mpr ⟨⟨m_548, rfl⟩, List.forall_mem_cons.mpr ⟨⟨m_550, rfl⟩, List.forall_mem_cons.mpr ⟨⟨m_18, rfl⟩, List.forall_mem_cons.mpr ⟨⟨m_27, rfl⟩, List.forall_mem_cons.mpr ⟨⟨m_551, rfl⟩, fun _ h => absurd h List.not_mem_nil⟩⟩⟩⟩⟩)
theorem gM0_many_M0_isNone : GoodIn lw_good (wsV RM0 109 RM0 yM0_isNone wsM0_isNone) := gm (List.forall_mem_cons.mpr ⟨⟨m_548, rfl⟩, List.forall_mem_cons.mpr ⟨⟨m_550, rfl⟩, List.forall_mem_cons.mpr ⟨⟨m_18, rfl⟩, List.forall_mem_cons.mpr ⟨⟨m_27, rfl⟩, List.forall_mem_cons.mpr ⟨⟨m_551, rfl⟩, fun _ h => absurd h List.not_mem_nil⟩⟩⟩⟩⟩)
theorem gM0_value_M0_isShare : GoodIn lw_good (wsV RM0 50 RM0 yM0_isShare wsM0_isShare) := gm (List.forall_mem_cons.mpr ⟨⟨m_496, rfl⟩, List.forall_mem_cons.mpr ⟨⟨m_498, rfl⟩, List.forall_mem_cons.mpr ⟨⟨m_12, rfl⟩, List.forall_mem_cons.mpr ⟨⟨m_27, rfl⟩, List.forall_mem_cons.mpr ⟨⟨m_499, rfl⟩, fun _ h => absurd h List.not_mem_nil⟩⟩⟩⟩⟩)
theorem gM0_value_M0_isRefused : GoodIn lw_good (wsV RM0 113 RM0 yM0_isRefused wsM0_isRefused) := gm (List.forall_mem_cons.mpr ⟨⟨m_560, rfl⟩, List.forall_mem_cons.mpr ⟨⟨m_562, rfl⟩, List.forall_mem_cons.mpr ⟨⟨m_19, rfl⟩, List.forall_mem_cons.mpr ⟨⟨m_27, rfl⟩, List.forall_mem_cons.mpr ⟨⟨m_563, rfl⟩, fun _ h => absurd h List.not_mem_nil⟩⟩⟩⟩⟩)
theorem gM0_chain_M0_isShare : GoodIn lw_good (wsV RM0 50 RM0 yM0_isShare wsM0_isShare) := gm (List.forall_mem_cons.mpr ⟨⟨m_496, rfl⟩, List.forall_mem_cons.mpr ⟨⟨m_498, rfl⟩, List.forall_mem_cons.mpr ⟨⟨m_12, rfl⟩, List.forall_mem_cons.mpr ⟨⟨m_27, rfl⟩, List.forall_mem_cons.mpr ⟨⟨m_499, rfl⟩, fun _ h => absurd h List.not_mem_nil⟩⟩⟩⟩⟩)
theorem gM0_chain_M0_in : GoodIn lw_good (va_wsS RM0 58 yM0_in wsM0_in) := gm (List.forall_mem_cons.mpr ⟨⟨m_504, rfl⟩, List.forall_mem_cons.mpr ⟨⟨m_505, rfl⟩, List.forall_mem_cons.mpr ⟨⟨m_27, rfl⟩, List.forall_mem_cons.mpr ⟨⟨m_506, rfl⟩, fun _ h => absurd h List.not_mem_nil⟩⟩⟩⟩)
theorem gM0_chain_M0_after : GoodIn lw_good (wsV RM0 101 RM0 yM0_after wsM0_after) := gm (List.forall_mem_cons.mpr ⟨⟨m_523, rfl⟩, List.forall_mem_cons.mpr ⟨⟨m_525, rfl⟩, List.forall_mem_cons.mpr ⟨⟨m_14, rfl⟩, List.forall_mem_cons.mpr ⟨⟨m_27, rfl⟩, List.forall_mem_cons.mpr ⟨⟨m_526, rfl⟩, fun _ h => absurd h List.not_mem_nil⟩⟩⟩⟩⟩)
theorem gM0_came_M0_in : GoodIn lw_good (va_wsS RM0 58 yM0_in wsM0_in) := gm (List.forall_mem_cons.mpr ⟨⟨m_504, rfl⟩, List.forall_mem_cons.mpr ⟨⟨m_505, rfl⟩, List.forall_mem_cons.mpr ⟨⟨m_27, rfl⟩, List.forall_mem_cons.mpr ⟨⟨m_506, rfl⟩, fun _ h => absurd h List.not_mem_nil⟩⟩⟩⟩)
theorem gM0_came_M0_isRefused : GoodIn lw_good (wsV RM0 113 RM0 yM0_isRefused wsM0_isRefused) := gm (List.forall_mem_cons.mpr ⟨⟨m_560, rfl⟩, List.forall_mem_cons.mpr ⟨⟨m_562, rfl⟩, List.forall_mem_cons.mpr ⟨⟨m_19, rfl⟩, List.forall_mem_cons.mpr ⟨⟨m_27, rfl⟩, List.forall_mem_cons.mpr ⟨⟨m_563, rfl⟩, fun _ h => absurd h List.not_mem_nil⟩⟩⟩⟩⟩)
theorem gM0_begun_M0_isShare : GoodIn lw_good (wsV RM0 50 RM0 yM0_isShare wsM0_isShare) := gm (List.forall_mem_cons.mpr ⟨⟨m_496, rfl⟩, List.forall_mem_cons.mpr ⟨⟨m_498, rfl⟩, List.forall_mem_cons.mpr ⟨⟨m_12, rfl⟩, List.forall_mem_cons.mpr ⟨⟨m_27, rfl⟩, List.forall_mem_cons.mpr ⟨⟨m_499, rfl⟩, fun _ h => absurd h List.not_mem_nil⟩⟩⟩⟩⟩)
theorem gM0_begun_M0_isRefused : GoodIn lw_good (wsV RM0 113 RM0 yM0_isRefused wsM0_isRefused) := gm (List.forall_mem_cons.mpr ⟨⟨m_560, rfl⟩, List.forall_mem_cons.mpr ⟨⟨m_562, rfl⟩, List.forall_mem_cons.mpr ⟨⟨m_19, rfl⟩, List.forall_mem_cons.mpr ⟨⟨m_27, rfl⟩, List.forall_mem_cons.mpr ⟨⟨m_563, rfl⟩, fun _ h => absurd h List.not_mem_nil⟩⟩⟩⟩⟩)
theorem gM0_steps_M0_in : GoodIn lw_good (va_wsS RM0 58 yM0_in wsM0_in) := gm (List.forall_mem_cons.mpr ⟨⟨m_504, rfl⟩, List.forall_mem_cons.mpr ⟨⟨m_505, rfl⟩, List.forall_mem_cons.mpr ⟨⟨m_27, rfl⟩, List.forall_mem_cons.mpr ⟨⟨m_506, rfl⟩, fun _ h => absurd h List.not_mem_nil⟩⟩⟩⟩)
theorem gM0_steps_M0_isRefused : GoodIn lw_good (wsV RM0 113 RM0 yM0_isRefused wsM0_isRefused) := gm (List.forall_mem_cons.mpr ⟨⟨m_560, rfl⟩, List.forall_mem_cons.mpr ⟨⟨m_562, rfl⟩, List.forall_mem_cons.mpr ⟨⟨m_19, rfl⟩, List.forall_mem_cons.mpr ⟨⟨m_27, rfl⟩, List.forall_mem_cons.mpr ⟨⟨m_563, rfl⟩, fun _ h => absurd h List.not_mem_nil⟩⟩⟩⟩⟩)
theorem gM0_count_M0_in : GoodIn lw_good (va_wsS RM0 58 yM0_in wsM0_in) := gm (List.forall_mem_cons.mpr ⟨⟨m_504, rfl⟩, List.forall_mem_cons.mpr ⟨⟨m_505, rfl⟩, List.forall_mem_cons.mpr ⟨⟨m_27, rfl⟩, List.forall_mem_cons.mpr ⟨⟨m_506, rfl⟩, fun _ h => absurd h List.not_mem_nil⟩⟩⟩⟩)
end
