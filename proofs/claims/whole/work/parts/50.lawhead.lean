/-! THE CLAIM OUT OF ONE WALK OF THE LAW'S BODY. Your part is whole_start (and what it stands on); all else here is the same for every law, but numbers. -/
def R_law : String := "DrawSharesLaw"
def lw_P (b : Addr) (xs : List Int32) (args : Array Value) (s : State) : Prop := args = #[.ref b] ∧ s.IntsAt b xs ∧ xs.length ≤ 2561 ∧ (Jvm.Cond.and given_1 narrow_1).before args s = true
def lw_Q (_ : Array Value) (s : State) (o : Outcome) (t : State) : Prop := o = .returned (some (.int 1)) ∧ Framed s o t [] 643794 7164688
def lw_Z (below : List Frame) (a : Array Value) (s : State) : State → Prop := fun t => ∃ o, t.status = .running ∧ Ended t below o ∧ lw_Q a s o t
/-- the law's own end, with 1 on the stack, nothing written that was there before, its room as the claim has it -/
theorem lw_ret {p : Program} {l : Launch} {e : Env} {s : State} {m : MethodId} {below : List Frame} {meth : Method} {c : Code} {b : Nat} (hx : p.tables.exec = Jvm.exec) (hb : c.code = code) (hr : meth.sig.returnType = ret) (hlocks : meth.locks = false) {pc : Nat} {H : Heap} {ls : Array Slot} (hdg : decode code pc = .ok (.ireturn, 1)) : W p l e room_1 s m #[Value.ref b] below meth c H [] 643794 7164688 (lw_Z below #[Value.ref b] s) (F0 m pc ls [.int 1]) := by
  intro T hT X
  obtain ⟨fs, hret, hrun, hended, hW, hframe⟩ := X.leave (v := some (.int 1)) (hlocks := hlocks) (fun h => by rw [hr] at h; cases h)
  have hmeth' : T.vm.method? m = some meth := X.method'
  refine ⟨T.setFrames fs, ?_, .returned (some (.int 1)), hrun, hended, rfl, ⟨_, rfl⟩, hW, hframe⟩
  jvm_step X.here [X.here.top, hx, hb, hdg, hmeth', hr, ret, narrow_b1]
  (try refine ⟨rfl, ?_⟩); (try refine ⟨rfl, ?_⟩)
  first | (intro acts; rw [hret _ acts rfl rfl rfl]) | rw [hret _ _ rfl rfl rfl]
  exact Steps.refl _
/-- what holds at the law's entry: the machine, the code, the tables' words (any of lw_tbl by 'hts w (by decide +kernel)'), the script of L ints xs at the cell b, what the Statement gives of the start (any of its parts by flat_of_before) -/
def lw_At (p : Program) (s : State) (m : MethodId) (meth : Method) (c : Code) (b L : Nat) (xs : Nat → Int32) : Prop :=
  p.tables.exec = Jvm.exec ∧ c.code = code ∧ meth.sig.returnType = ret ∧ c.maxLocals = 8 ∧ s.vm.findClass R_law = some m.cls ∧ (∀ w ∈ lw_tbl, w.before #[Value.ref b] s = true) ∧ va_X b L xs s s.heap ∧ b < s.heap.size ∧ meth.locks = false ∧ (Jvm.Cond.and given_1 narrow_1).before #[Value.ref b] s = true
theorem nad1 (a : Nat) : nI a + 1 = nI (a + 1) := nI_add a 1
theorem nad2 (a : Nat) : nI a + 2 = nI (a + 2) := nI_add a 2
theorem nad3 (a : Nat) : nI a + 3 = nI (a + 3) := nI_add a 3
theorem nad4 (a : Nat) : nI a + 4 = nI (a + 4) := nI_add a 4
theorem nad5 (a : Nat) : nI a + 5 = nI (a + 5) := nI_add a 5
theorem Rel.le {i j : Nat} {u : xS} {v : mS} (h : Rel i u v) (hij : i ≤ j) : Rel j u v := by
  obtain ⟨n, wk, sd, bt, lt, lo, rk, ad, vl, bg, cm, sp, gd, rf, ct, rd, sm, js, sn, wl⟩ := u
  obtain ⟨th, n2, wk2, sd2, bt2, lt2, lo2, ct2, rk2, ad2, sp2, gd2, rf2, sm2, js2, sn2, wl2, vl2, bg2, cm2⟩ := v
  obtain ⟨h0, h1, h2, h3, ⟨k, hk, h4⟩, h5, h6⟩ := h
  exact ⟨h0, h1, h2, h3, ⟨k, by omega, h4⟩, h5, h6⟩
theorem Rel.ok {i : Nat} {u : xS} {v : mS} (h : Rel i u v) : xok u := by
  obtain ⟨n, wk, sd, bt, lt, lo, rk, ad, vl, bg, cm, sp, gd, rf, ct, rd, sm, js, sn, wl⟩ := u
  obtain ⟨th, n2, wk2, sd2, bt2, lt2, lo2, ct2, rk2, ad2, sp2, gd2, rf2, sm2, js2, sn2, wl2, vl2, bg2, cm2⟩ := v
  obtain ⟨h0, h1, h2, h3, -⟩ := h
  exact ⟨h2, h3⟩
theorem Rel.mok {i : Nat} {u : xS} {th : Int32} {n2 : Nat} {wk2 sd2 bt2 lt2 lo2 : Nat → Int32} {ct2 : Nat} {rk2 ad2 : Nat → Int32} {sp2 gd2 rf2 : Int32} {sm2 : Int64} {js2 sn2 wl2 : Int32} {vl2 bg2 cm2 : Nat → Int32} (h : Rel i u (th, n2, wk2, sd2, bt2, lt2, lo2, ct2, rk2, ad2, sp2, gd2, rf2, sm2, js2, sn2, wl2, vl2, bg2, cm2)) : n2 ≤ 40 ∧ ct2 ≤ 24 := by
  obtain ⟨n, wk, sd, bt, lt, lo, rk, ad, vl, bg, cm, sp, gd, rf, ct, rd, sm, js, sn, wl⟩ := u
  obtain ⟨⟨e1, e2, -⟩, h1, h2, h3, -⟩ := h
  rw [e1, e2]
  exact ⟨h2, h3⟩
theorem ll {L i : Nat} (hL : L ≤ 2561) (hi : i ≤ 2570) (h : ¬ Int32.ofNat L - 5 < nI i) : i + 5 ≤ L := by
  have e : (Int32.ofNat L - 5).toInt = (L : Int) - 5 := pk_sub_toInt (a := L) (b := 5) (by omega) (by omega)
  have h2 : ¬ (Int32.ofNat L - 5).toInt < (nI i).toInt := fun q => h (Int32.lt_iff_toInt_lt.mpr q)
  rw [e, nI_toInt (by omega)] at h2
  omega
theorem sw13 (k : Int32) (h : ¬ (k.toInt < 0 ∨ 12 < k.toInt)) : k = 0 ∨ k = 1 ∨ k = 2 ∨ k = 3 ∨ k = 4 ∨ k = 5 ∨ k = 6 ∨ k = 7 ∨ k = 8 ∨ k = 9 ∨ k = 10 ∨ k = 11 ∨ k = 12 := by
  have h0 : ¬ k < 0 := fun q => h (Or.inl (by simpa using (Int32.lt_iff_toInt_lt.mp q)))
  obtain ⟨j, hj, rfl⟩ := nI_of h0
  rw [nI_toInt hj] at h
  have h2 : ∀ c : Nat, c < 2 ^ 31 → (nI j = nI c ↔ j = c) := fun c hc => nI_eq hj hc
  have : j = 0 ∨ j = 1 ∨ j = 2 ∨ j = 3 ∨ j = 4 ∨ j = 5 ∨ j = 6 ∨ j = 7 ∨ j = 8 ∨ j = 9 ∨ j = 10 ∨ j = 11 ∨ j = 12 := by omega
  rcases this with rfl | rfl | rfl | rfl | rfl | rfl | rfl | rfl | rfl | rfl | rfl | rfl | rfl <;> simp [nI]
theorem gL_law_L_share : GoodIn lw_good (va_wsS RL 73 yL_share wsL_share) := gm (List.forall_mem_cons.mpr ⟨⟨m_165, rfl⟩, List.forall_mem_cons.mpr ⟨⟨m_166, rfl⟩, List.forall_mem_cons.mpr ⟨⟨m_20, rfl⟩, List.forall_mem_cons.mpr ⟨⟨m_167, rfl⟩, fun _ h => absurd h List.not_mem_nil⟩⟩⟩⟩)
theorem gL_law_M0_share : GoodIn lw_good (wsV RL 76 RM0 yM0_share wsM0_share) := gm (List.forall_mem_cons.mpr ⟨⟨m_492, rfl⟩, List.forall_mem_cons.mpr ⟨⟨m_493, rfl⟩, List.forall_mem_cons.mpr ⟨⟨m_494, rfl⟩, List.forall_mem_cons.mpr ⟨⟨m_27, rfl⟩, List.forall_mem_cons.mpr ⟨⟨m_495, rfl⟩, fun _ h => absurd h List.not_mem_nil⟩⟩⟩⟩⟩)
theorem gL_law_M0_thrown : GoodIn lw_good (wsV RL 77 RM0 yM0_thrown wsM0_thrown) := gm (List.forall_mem_cons.mpr ⟨⟨m_488, rfl⟩, List.forall_mem_cons.mpr ⟨⟨m_489, rfl⟩, List.forall_mem_cons.mpr ⟨⟨m_490, rfl⟩, List.forall_mem_cons.mpr ⟨⟨m_27, rfl⟩, List.forall_mem_cons.mpr ⟨⟨m_491, rfl⟩, fun _ h => absurd h List.not_mem_nil⟩⟩⟩⟩⟩)
theorem gL_law_L_fails : GoodIn lw_good (va_wsS RL 80 yL_fails wsL_fails) := gm (List.forall_mem_cons.mpr ⟨⟨m_263, rfl⟩, List.forall_mem_cons.mpr ⟨⟨m_264, rfl⟩, List.forall_mem_cons.mpr ⟨⟨m_20, rfl⟩, List.forall_mem_cons.mpr ⟨⟨m_265, rfl⟩, fun _ h => absurd h List.not_mem_nil⟩⟩⟩⟩)
theorem gL_law_M0_fails : GoodIn lw_good (wsV RL 83 RM0 yM0_fails wsM0_fails) := gm (List.forall_mem_cons.mpr ⟨⟨m_507, rfl⟩, List.forall_mem_cons.mpr ⟨⟨m_508, rfl⟩, List.forall_mem_cons.mpr ⟨⟨m_509, rfl⟩, List.forall_mem_cons.mpr ⟨⟨m_27, rfl⟩, List.forall_mem_cons.mpr ⟨⟨m_510, rfl⟩, fun _ h => absurd h List.not_mem_nil⟩⟩⟩⟩⟩)
theorem gL_law_L_act : GoodIn lw_good (va_wsS RL 84 yL_act wsL_act) := gm (List.forall_mem_cons.mpr ⟨⟨m_272, rfl⟩, List.forall_mem_cons.mpr ⟨⟨m_273, rfl⟩, List.forall_mem_cons.mpr ⟨⟨m_20, rfl⟩, List.forall_mem_cons.mpr ⟨⟨m_274, rfl⟩, fun _ h => absurd h List.not_mem_nil⟩⟩⟩⟩)
theorem gL_law_M0_act : GoodIn lw_good (wsV RL 87 RM0 yM0_act wsM0_act) := gm (List.forall_mem_cons.mpr ⟨⟨m_511, rfl⟩, List.forall_mem_cons.mpr ⟨⟨m_512, rfl⟩, List.forall_mem_cons.mpr ⟨⟨m_513, rfl⟩, List.forall_mem_cons.mpr ⟨⟨m_27, rfl⟩, List.forall_mem_cons.mpr ⟨⟨m_514, rfl⟩, fun _ h => absurd h List.not_mem_nil⟩⟩⟩⟩⟩)
theorem gL_law_L_stop : GoodIn lw_good (va_wsS RL 88 yL_stop wsL_stop) := gm (List.forall_mem_cons.mpr ⟨⟨m_301, rfl⟩, List.forall_mem_cons.mpr ⟨⟨m_302, rfl⟩, List.forall_mem_cons.mpr ⟨⟨m_20, rfl⟩, List.forall_mem_cons.mpr ⟨⟨m_303, rfl⟩, fun _ h => absurd h List.not_mem_nil⟩⟩⟩⟩)
theorem gL_law_M0_stop : GoodIn lw_good (wsV RL 91 RM0 yM0_stop wsM0_stop) := gm (List.forall_mem_cons.mpr ⟨⟨m_515, rfl⟩, List.forall_mem_cons.mpr ⟨⟨m_516, rfl⟩, List.forall_mem_cons.mpr ⟨⟨m_517, rfl⟩, List.forall_mem_cons.mpr ⟨⟨m_27, rfl⟩, List.forall_mem_cons.mpr ⟨⟨m_518, rfl⟩, fun _ h => absurd h List.not_mem_nil⟩⟩⟩⟩⟩)
theorem gL_law_L_run : GoodIn lw_good (va_wsS RL 92 yL_run wsL_run) := gm (List.forall_mem_cons.mpr ⟨⟨m_308, rfl⟩, List.forall_mem_cons.mpr ⟨⟨m_309, rfl⟩, List.forall_mem_cons.mpr ⟨⟨m_20, rfl⟩, List.forall_mem_cons.mpr ⟨⟨m_310, rfl⟩, fun _ h => absurd h List.not_mem_nil⟩⟩⟩⟩)
theorem gL_law_M0_run : GoodIn lw_good (wsV RL 94 RM0 yM0_run wsM0_run) := gm (List.forall_mem_cons.mpr ⟨⟨m_519, rfl⟩, List.forall_mem_cons.mpr ⟨⟨m_520, rfl⟩, List.forall_mem_cons.mpr ⟨⟨m_521, rfl⟩, List.forall_mem_cons.mpr ⟨⟨m_27, rfl⟩, List.forall_mem_cons.mpr ⟨⟨m_522, rfl⟩, fun _ h => absurd h List.not_mem_nil⟩⟩⟩⟩⟩)
theorem gL_law_L_joined : GoodIn lw_good (va_wsS RL 95 yL_joined wsL_joined) := gm (List.forall_mem_cons.mpr ⟨⟨m_355, rfl⟩, List.forall_mem_cons.mpr ⟨⟨m_356, rfl⟩, List.forall_mem_cons.mpr ⟨⟨m_20, rfl⟩, List.forall_mem_cons.mpr ⟨⟨m_357, rfl⟩, fun _ h => absurd h List.not_mem_nil⟩⟩⟩⟩)
theorem gL_law_M0_joined : GoodIn lw_good (wsV RL 98 RM0 yM0_joined wsM0_joined) := gm (List.forall_mem_cons.mpr ⟨⟨m_544, rfl⟩, List.forall_mem_cons.mpr ⟨⟨m_545, rfl⟩, List.forall_mem_cons.mpr ⟨⟨m_546, rfl⟩, List.forall_mem_cons.mpr ⟨⟨m_27, rfl⟩, List.forall_mem_cons.mpr ⟨⟨m_547, rfl⟩, fun _ h => absurd h List.not_mem_nil⟩⟩⟩⟩⟩)
theorem gL_law_L_many : GoodIn lw_good (va_wsS RL 99 yL_many wsL_many) := gm (List.forall_mem_cons.mpr ⟨⟨m_367, rfl⟩, List.forall_mem_cons.mpr ⟨⟨m_368, rfl⟩, List.forall_mem_cons.mpr ⟨⟨m_20, rfl⟩, List.forall_mem_cons.mpr ⟨⟨m_369, rfl⟩, fun _ h => absurd h List.not_mem_nil⟩⟩⟩⟩)
theorem gL_law_M0_many : GoodIn lw_good (wsV RL 101 RM0 yM0_many wsM0_many) := gm (List.forall_mem_cons.mpr ⟨⟨m_552, rfl⟩, List.forall_mem_cons.mpr ⟨⟨m_553, rfl⟩, List.forall_mem_cons.mpr ⟨⟨m_554, rfl⟩, List.forall_mem_cons.mpr ⟨⟨m_27, rfl⟩, List.forall_mem_cons.mpr ⟨⟨m_555, rfl⟩, fun _ h => absurd h List.not_mem_nil⟩⟩⟩⟩⟩)
theorem gL_law_L_value : GoodIn lw_good (va_wsS RL 102 yL_value wsL_value) := gm (List.forall_mem_cons.mpr ⟨⟨m_374, rfl⟩, List.forall_mem_cons.mpr ⟨⟨m_375, rfl⟩, List.forall_mem_cons.mpr ⟨⟨m_20, rfl⟩, List.forall_mem_cons.mpr ⟨⟨m_376, rfl⟩, fun _ h => absurd h List.not_mem_nil⟩⟩⟩⟩)
theorem gL_law_M0_value : GoodIn lw_good (wsV RL 104 RM0 yM0_value wsM0_value) := gm (List.forall_mem_cons.mpr ⟨⟨m_556, rfl⟩, List.forall_mem_cons.mpr ⟨⟨m_557, rfl⟩, List.forall_mem_cons.mpr ⟨⟨m_558, rfl⟩, List.forall_mem_cons.mpr ⟨⟨m_27, rfl⟩, List.forall_mem_cons.mpr ⟨⟨m_559, rfl⟩, fun _ h => absurd h List.not_mem_nil⟩⟩⟩⟩⟩)
theorem gL_law_L_chain : GoodIn lw_good (va_wsS RL 105 yL_chain wsL_chain) := gm (List.forall_mem_cons.mpr ⟨⟨m_381, rfl⟩, List.forall_mem_cons.mpr ⟨⟨m_382, rfl⟩, List.forall_mem_cons.mpr ⟨⟨m_20, rfl⟩, List.forall_mem_cons.mpr ⟨⟨m_383, rfl⟩, fun _ h => absurd h List.not_mem_nil⟩⟩⟩⟩)
theorem gL_law_M0_chain : GoodIn lw_good (wsV RL 107 RM0 yM0_chain wsM0_chain) := gm (List.forall_mem_cons.mpr ⟨⟨m_564, rfl⟩, List.forall_mem_cons.mpr ⟨⟨m_565, rfl⟩, List.forall_mem_cons.mpr ⟨⟨m_566, rfl⟩, List.forall_mem_cons.mpr ⟨⟨m_27, rfl⟩, List.forall_mem_cons.mpr ⟨⟨m_567, rfl⟩, fun _ h => absurd h List.not_mem_nil⟩⟩⟩⟩⟩)
theorem gL_law_L_came : GoodIn lw_good (va_wsS RL 108 yL_came wsL_came) := gm (List.forall_mem_cons.mpr ⟨⟨m_390, rfl⟩, List.forall_mem_cons.mpr ⟨⟨m_391, rfl⟩, List.forall_mem_cons.mpr ⟨⟨m_20, rfl⟩, List.forall_mem_cons.mpr ⟨⟨m_392, rfl⟩, fun _ h => absurd h List.not_mem_nil⟩⟩⟩⟩)
theorem gL_law_M0_came : GoodIn lw_good (wsV RL 110 RM0 yM0_came wsM0_came) := gm (List.forall_mem_cons.mpr ⟨⟨m_568, rfl⟩, List.forall_mem_cons.mpr ⟨⟨m_569, rfl⟩, List.forall_mem_cons.mpr ⟨⟨m_570, rfl⟩, List.forall_mem_cons.mpr ⟨⟨m_27, rfl⟩, List.forall_mem_cons.mpr ⟨⟨m_571, rfl⟩, fun _ h => absurd h List.not_mem_nil⟩⟩⟩⟩⟩)
theorem gL_law_L_begun : GoodIn lw_good (va_wsS RL 111 yL_begun wsL_begun) := gm (List.forall_mem_cons.mpr ⟨⟨m_398, rfl⟩, List.forall_mem_cons.mpr ⟨⟨m_399, rfl⟩, List.forall_mem_cons.mpr ⟨⟨m_20, rfl⟩, List.forall_mem_cons.mpr ⟨⟨m_400, rfl⟩, fun _ h => absurd h List.not_mem_nil⟩⟩⟩⟩)
theorem gL_law_M0_begun : GoodIn lw_good (wsV RL 113 RM0 yM0_begun wsM0_begun) := gm (List.forall_mem_cons.mpr ⟨⟨m_572, rfl⟩, List.forall_mem_cons.mpr ⟨⟨m_573, rfl⟩, List.forall_mem_cons.mpr ⟨⟨m_574, rfl⟩, List.forall_mem_cons.mpr ⟨⟨m_27, rfl⟩, List.forall_mem_cons.mpr ⟨⟨m_575, rfl⟩, fun _ h => absurd h List.not_mem_nil⟩⟩⟩⟩⟩)
theorem gL_law_L_steps : GoodIn lw_good (va_wsS RL 114 yL_steps wsL_steps) := gm (List.forall_mem_cons.mpr ⟨⟨m_405, rfl⟩, List.forall_mem_cons.mpr ⟨⟨m_406, rfl⟩, List.forall_mem_cons.mpr ⟨⟨m_20, rfl⟩, List.forall_mem_cons.mpr ⟨⟨m_407, rfl⟩, fun _ h => absurd h List.not_mem_nil⟩⟩⟩⟩)
theorem gL_law_M0_steps : GoodIn lw_good (wsV RL 116 RM0 yM0_steps wsM0_steps) := gm (List.forall_mem_cons.mpr ⟨⟨m_576, rfl⟩, List.forall_mem_cons.mpr ⟨⟨m_577, rfl⟩, List.forall_mem_cons.mpr ⟨⟨m_578, rfl⟩, List.forall_mem_cons.mpr ⟨⟨m_27, rfl⟩, List.forall_mem_cons.mpr ⟨⟨m_579, rfl⟩, fun _ h => absurd h List.not_mem_nil⟩⟩⟩⟩⟩)
theorem gL_law_L_count : GoodIn lw_good (va_wsS RL 117 yL_count wsL_count) := gm (List.forall_mem_cons.mpr ⟨⟨m_413, rfl⟩, List.forall_mem_cons.mpr ⟨⟨m_414, rfl⟩, List.forall_mem_cons.mpr ⟨⟨m_20, rfl⟩, List.forall_mem_cons.mpr ⟨⟨m_415, rfl⟩, fun _ h => absurd h List.not_mem_nil⟩⟩⟩⟩)
theorem gL_law_M0_count : GoodIn lw_good (wsV RL 119 RM0 yM0_count wsM0_count) := gm (List.forall_mem_cons.mpr ⟨⟨m_580, rfl⟩, List.forall_mem_cons.mpr ⟨⟨m_581, rfl⟩, List.forall_mem_cons.mpr ⟨⟨m_582, rfl⟩, List.forall_mem_cons.mpr ⟨⟨m_27, rfl⟩, List.forall_mem_cons.mpr ⟨⟨m_583, rfl⟩, fun _ h => absurd h List.not_mem_nil⟩⟩⟩⟩⟩)
