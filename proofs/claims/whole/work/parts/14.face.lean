set_option maxHeartbeats 4000000 in
set_option maxRecDepth 100000 in
/-- needShare(k) -/
theorem c_X0_needShare (l : Launch) (hl9 : l.stackTraces = false) (dC : Nat → ClassId) (dI : Nat → Nat → Nat) (c0 : ClassId) (a : Nat → Nat) (sz : Nat) (n : Nat) (wk sd bt lt lo rk ad vl bg cm : Nat → Int32) (sp gd rf : Int32) (ct : Nat) (rd : Int32) (sm : Int64) (js sn wl : Int32) (k : Int32) : vx_Met l yX0_needShare wsX0_needShare ({ frames := 6, cells := 1, slots := 6, locals := 82 }) (va_Pc [.ref (a 0), .int k] (PX dC dI c0 a (n, wk, sd, bt, lt, lo, rk, ad, vl, bg, cm, sp, gd, rf, ct, rd, sm, js, sn, wl) sz)) (va_Qv (fun (u : xS) => (¬ k < 0 ∧ k < nI n) ∧ u = (n, wk, sd, bt, lt, lo, rk, ad, vl, bg, cm, sp, gd, rf, ct, rd, sm, js, sn, wl)) (BX dC dI c0 a (va_A (wX c0 a (n, wk, sd, bt, lt, lo, rk, ad, vl, bg, cm, sp, gd, rf, ct, rd, sm, js, sn, wl)) sz)) (va_A (wX c0 a (n, wk, sd, bt, lt, lo, rk, ad, vl, bg, cm, sp, gd, rf, ct, rd, sm, js, sn, wl)) sz)) (vx_X (fun _ : Unit => True) (fun (E : String) (_ : Unit) t => (E = "java/lang/IndexOutOfBoundsException" ∧ (k < 0 ∨ ¬ k < nI n)) ∧ BX dC dI c0 a (va_A (wX c0 a (n, wk, sd, bt, lt, lo, rk, ad, vl, bg, cm, sp, gd, rf, ct, rd, sm, js, sn, wl)) sz) (n, wk, sd, bt, lt, lo, rk, ad, vl, bg, cm, sp, gd, rf, ct, rd, sm, js, sn, wl) t) (va_A (wX c0 a (n, wk, sd, bt, lt, lo, rk, ad, vl, bg, cm, sp, gd, rf, ct, rd, sm, js, sn, wl)) sz)) 1 6 (va_A (wX c0 a (n, wk, sd, bt, lt, lo, rk, ad, vl, bg, cm, sp, gd, rf, ct, rd, sm, js, sn, wl)) sz) := by
  refine vx_ofW (cc := cX0_needShare) (maxL := 2) (ret := none) (by decide) rfl ?_
  intro p e s m args below meth c s₁ B hml hne hv
  obtain ⟨rfl, hsz, hP, hK, hD0, hE⟩ := hv
  have hx := B.exec
  have hb := B.bytes
  have hr := B.returns
  have hown : s.vm.findClass RX0 = some m.cls := findClass_of_methodNamed B.named
  have hlocks := B.notSynchronized
  subst hsz
  have hD := hD0.self (sz := s.heap.size)
  generalize hAe : va_A (wX c0 a (n, wk, sd, bt, lt, lo, rk, ad, vl, bg, cm, sp, gd, rf, ct, rd, sm, js, sn, wl)) s.heap.size = A at hD hE ⊢
  have hts := hE.ts (args := ([.ref (a 0), .int k] : List Value).toArray)
  have hA : ∀ q : Nat, s.heap.size ≤ q → A q := fun q h => by rw [← hAe]; exact Or.inr h
  have hS : va_S A s.heap s.heap [] := va_S.rf
  have hP : va_P (dC, dI) vwCl (wX c0 a (n, wk, sd, bt, lt, lo, rk, ad, vl, bg, cm, sp, gd, rf, ct, rd, sm, js, sn, wl)) s.heap := hP
  have hl := lv_entry ([.ref (a 0), .int k]) (n := 2) (Nat.le_of_ble_eq_true rfl)
  rw [lg_entry_eq]
  generalize (lg_sl ([.ref (a 0), .int k]) ++ List.replicate (2 - (lg_sl ([.ref (a 0), .int k])).length) Slot.unset).toArray = ls at hl ⊢
  have hl : lv_has ls 2 [(0, .ref (a 0)), (1, .int k)] := hl
  refine lv_iload_n hx hb dX0_needShare_0 rfl (lv_at hl 1 rfl) ?_
  refine lv_if_lt (tgt := 15) hx hb dX0_needShare_1 (by decide) (fun c_1 => ?_) (fun c_1 => ?_)
  · skip
    obtain ⟨sa, hsa⟩ := hE.st (RX0, 151, "there is no such share") (by decide)
    exact vx_throwS (own := RX0) (cls := "java/lang/IndexOutOfBoundsException") (text := "there is no such share") (names := ["java/lang/RuntimeException", "java/lang/Exception"]) (ik := 80) (is := 151) (ic := 84) hx hb hl9 hown (by decide +kernel) (by decide +kernel) (hE.t m_178 rfl) (hE.t m_31 rfl) hsa (vx_hat (L := (vx_atS RX0 84 "java/lang/IndexOutOfBoundsException" ["java/lang/RuntimeException", "java/lang/Exception"])) (B := [.castable "java/lang/IndexOutOfBoundsException" "java/lang/IndexOutOfBoundsException", .declares ⟨"java/lang/RuntimeException", "<init>", "(Ljava/lang/String;)V"⟩, .declares ⟨"java/lang/Exception", "<init>", "(Ljava/lang/String;)V"⟩, .declares ⟨"java/lang/Throwable", "<init>", "(Ljava/lang/String;)V"⟩]) (fun w hw => hts w (List.mem_filter.mpr ⟨at_X0_IndexOutOfBoundsException w hw, (List.mem_filter.mp hw).2⟩)) ab_X0_IndexOutOfBoundsException (vx_c (hE.t m_180 rfl) (vx_c (hE.t m_182 rfl) (vx_c (hE.t m_184 rfl) (vx_c (hE.t m_186 rfl) vx_n))))) gd_X0_IndexOutOfBoundsException hE.zu hE.zn hS (by rw [hml]; exact hl.1) dX0_needShare_15 dX0_needShare_18 dX0_needShare_19 dX0_needShare_21 dX0_needShare_24 (fun x hx => (hne x hx).elim) (by decide) (by decide) (by decide) (by decide) hlocks (fun t hvm h1 h2 => ⟨(), trivial, ⟨⟨rfl, Or.inl c_1⟩, (thr_B hP hK hD hS hvm h1 h2).1⟩, (thr_B hP hK hD hS hvm h1 h2).2⟩) hS.2.2 (by decide) (by decide)
  · skip
    refine lv_iload_n hx hb dX0_needShare_4 rfl (lv_at hl 1 rfl) ?_
    refine lv_aload_n hx hb dX0_needShare_5 rfl (lv_at hl 0 rfl) ?_
    refine va_get (D := (dC, dI)) (ci := 0) (v := .ref (a 1)) (C := RX0) (T := TX0) (N := 6) hx hb hts inX0 hown hK hP 0 rfl rfl 0 (by decide) (hE.t m_143 rfl) (fun _ h9 => h9) rfl dX0_needShare_6 ?_
    refine va_getN (D := (dC, dI)) (ci := 1) (v := .int (nI n)) (C := RX1) (T := TX1) (N := 6) hx hb hts inX1 hown hK hP 1 rfl rfl 0 (by decide) (hE.t m_59 rfl) (fun _ h9 => h9) rfl dX0_needShare_9 ?_
    refine lv_icmp_lt (tgt := 25) hx hb dX0_needShare_12 (by decide) (fun c_12 => ?_) (fun c_12 => ?_)
    · skip
      refine vx_ret ?_
      refine W.widen (k := 1) (n := 6) (by omega) (by omega) ?_
      exact W.vret hx hb hr (fun t ht hW => ⟨⟨(n, wk, sd, bt, lt, lo, rk, ad, vl, bg, cm, sp, gd, rf, ct, rd, sm, js, sn, wl), rfl, ⟨⟨c_1, c_12⟩, rfl⟩, by rw [ht]; exact hP, va_K.moved hW.alike hK, hD⟩, hS.F ht⟩) hS.2.2 dX0_needShare_25
    · skip
      obtain ⟨sa, hsa⟩ := hE.st (RX0, 151, "there is no such share") (by decide)
      exact vx_throwS (own := RX0) (cls := "java/lang/IndexOutOfBoundsException") (text := "there is no such share") (names := ["java/lang/RuntimeException", "java/lang/Exception"]) (ik := 80) (is := 151) (ic := 84) hx hb hl9 hown (by decide +kernel) (by decide +kernel) (hE.t m_178 rfl) (hE.t m_31 rfl) hsa (vx_hat (L := (vx_atS RX0 84 "java/lang/IndexOutOfBoundsException" ["java/lang/RuntimeException", "java/lang/Exception"])) (B := [.castable "java/lang/IndexOutOfBoundsException" "java/lang/IndexOutOfBoundsException", .declares ⟨"java/lang/RuntimeException", "<init>", "(Ljava/lang/String;)V"⟩, .declares ⟨"java/lang/Exception", "<init>", "(Ljava/lang/String;)V"⟩, .declares ⟨"java/lang/Throwable", "<init>", "(Ljava/lang/String;)V"⟩]) (fun w hw => hts w (List.mem_filter.mpr ⟨at_X0_IndexOutOfBoundsException w hw, (List.mem_filter.mp hw).2⟩)) ab_X0_IndexOutOfBoundsException (vx_c (hE.t m_180 rfl) (vx_c (hE.t m_182 rfl) (vx_c (hE.t m_184 rfl) (vx_c (hE.t m_186 rfl) vx_n))))) gd_X0_IndexOutOfBoundsException hE.zu hE.zn hS (by rw [hml]; exact hl.1) dX0_needShare_15 dX0_needShare_18 dX0_needShare_19 dX0_needShare_21 dX0_needShare_24 (fun x hx => (hne x hx).elim) (by decide) (by decide) (by decide) (by decide) hlocks (fun t hvm h1 h2 => ⟨(), trivial, ⟨⟨rfl, Or.inr c_12⟩, (thr_B hP hK hD hS hvm h1 h2).1⟩, (thr_B hP hK hD hS hvm h1 h2).2⟩) hS.2.2 (by decide) (by decide)
set_option maxHeartbeats 4000000 in
set_option maxRecDepth 100000 in
/-- needRun() -/
theorem c_X0_needRun (l : Launch) (hl9 : l.stackTraces = false) (dC : Nat → ClassId) (dI : Nat → Nat → Nat) (c0 : ClassId) (a : Nat → Nat) (sz : Nat) (n : Nat) (wk sd bt lt lo rk ad vl bg cm : Nat → Int32) (sp gd rf : Int32) (ct : Nat) (rd : Int32) (sm : Int64) (js sn wl : Int32) : vx_Met l yX0_needRun wsX0_needRun ({ frames := 6, cells := 1, slots := 6, locals := 82 }) (va_Pc [.ref (a 0)] (PX dC dI c0 a (n, wk, sd, bt, lt, lo, rk, ad, vl, bg, cm, sp, gd, rf, ct, rd, sm, js, sn, wl) sz)) (va_Qv (fun (u : xS) => ¬ rd = 0 ∧ u = (n, wk, sd, bt, lt, lo, rk, ad, vl, bg, cm, sp, gd, rf, ct, rd, sm, js, sn, wl)) (BX dC dI c0 a (va_A (wX c0 a (n, wk, sd, bt, lt, lo, rk, ad, vl, bg, cm, sp, gd, rf, ct, rd, sm, js, sn, wl)) sz)) (va_A (wX c0 a (n, wk, sd, bt, lt, lo, rk, ad, vl, bg, cm, sp, gd, rf, ct, rd, sm, js, sn, wl)) sz)) (vx_X (fun _ : Unit => True) (fun (E : String) (_ : Unit) t => (E = "java/lang/IllegalStateException" ∧ rd = 0) ∧ BX dC dI c0 a (va_A (wX c0 a (n, wk, sd, bt, lt, lo, rk, ad, vl, bg, cm, sp, gd, rf, ct, rd, sm, js, sn, wl)) sz) (n, wk, sd, bt, lt, lo, rk, ad, vl, bg, cm, sp, gd, rf, ct, rd, sm, js, sn, wl) t) (va_A (wX c0 a (n, wk, sd, bt, lt, lo, rk, ad, vl, bg, cm, sp, gd, rf, ct, rd, sm, js, sn, wl)) sz)) 1 6 (va_A (wX c0 a (n, wk, sd, bt, lt, lo, rk, ad, vl, bg, cm, sp, gd, rf, ct, rd, sm, js, sn, wl)) sz) := by
  refine vx_ofW (cc := cX0_needRun) (maxL := 1) (ret := none) (by decide) rfl ?_
  intro p e s m args below meth c s₁ B hml hne hv
  obtain ⟨rfl, hsz, hP, hK, hD0, hE⟩ := hv
  have hx := B.exec
  have hb := B.bytes
  have hr := B.returns
  have hown : s.vm.findClass RX0 = some m.cls := findClass_of_methodNamed B.named
  have hlocks := B.notSynchronized
  subst hsz
  have hD := hD0.self (sz := s.heap.size)
  generalize hAe : va_A (wX c0 a (n, wk, sd, bt, lt, lo, rk, ad, vl, bg, cm, sp, gd, rf, ct, rd, sm, js, sn, wl)) s.heap.size = A at hD hE ⊢
  have hts := hE.ts (args := ([.ref (a 0)] : List Value).toArray)
  have hA : ∀ q : Nat, s.heap.size ≤ q → A q := fun q h => by rw [← hAe]; exact Or.inr h
  have hS : va_S A s.heap s.heap [] := va_S.rf
  have hP : va_P (dC, dI) vwCl (wX c0 a (n, wk, sd, bt, lt, lo, rk, ad, vl, bg, cm, sp, gd, rf, ct, rd, sm, js, sn, wl)) s.heap := hP
  have hl := lv_entry ([.ref (a 0)]) (n := 1) (Nat.le_of_ble_eq_true rfl)
  rw [lg_entry_eq]
  generalize (lg_sl ([.ref (a 0)]) ++ List.replicate (1 - (lg_sl ([.ref (a 0)])).length) Slot.unset).toArray = ls at hl ⊢
  have hl : lv_has ls 1 [(0, .ref (a 0))] := hl
  refine lv_aload_n hx hb dX0_needRun_0 rfl (lv_at hl 0 rfl) ?_
  refine va_get (D := (dC, dI)) (ci := 0) (v := .ref (a 3)) (C := RX0) (T := TX0) (N := 6) hx hb hts inX0 hown hK hP 0 rfl rfl 2 (by decide) (hE.t m_145 rfl) (fun _ h9 => h9) rfl dX0_needRun_1 ?_
  refine va_getN (D := (dC, dI)) (ci := 3) (v := .int rd) (C := RX3) (T := TX3) (N := 8) hx hb hts inX3 hown hK hP 3 rfl rfl 3 (by decide) (hE.t m_118 rfl) (fun _ h9 => h9) rfl dX0_needRun_4 ?_
  refine lv_if_ne (tgt := 20) hx hb dX0_needRun_7 (by decide) (fun c_7 => ?_) (fun c_7 => ?_)
  · skip
    refine vx_ret ?_
    refine W.widen (k := 1) (n := 6) (by omega) (by omega) ?_
    exact W.vret hx hb hr (fun t ht hW => ⟨⟨(n, wk, sd, bt, lt, lo, rk, ad, vl, bg, cm, sp, gd, rf, ct, rd, sm, js, sn, wl), rfl, ⟨c_7, rfl⟩, by rw [ht]; exact hP, va_K.moved hW.alike hK, hD⟩, hS.F ht⟩) hS.2.2 dX0_needRun_20
  · skip
    obtain ⟨sa, hsa⟩ := hE.st (RX0, 157, "there was no run that was not refused") (by decide)
    exact vx_throwS (own := RX0) (cls := "java/lang/IllegalStateException") (text := "there was no run that was not refused") (names := ["java/lang/RuntimeException", "java/lang/Exception"]) (ik := 86) (is := 157) (ic := 90) hx hb hl9 hown (by decide +kernel) (by decide +kernel) (hE.t m_281 rfl) (hE.t m_33 rfl) hsa (vx_hat (L := (vx_atS RX0 90 "java/lang/IllegalStateException" ["java/lang/RuntimeException", "java/lang/Exception"])) (B := [.castable "java/lang/IllegalStateException" "java/lang/IllegalStateException", .declares ⟨"java/lang/RuntimeException", "<init>", "(Ljava/lang/String;)V"⟩, .declares ⟨"java/lang/Exception", "<init>", "(Ljava/lang/String;)V"⟩, .declares ⟨"java/lang/Throwable", "<init>", "(Ljava/lang/String;)V"⟩]) (fun w hw => hts w (List.mem_filter.mpr ⟨at_X0_IllegalStateException w hw, (List.mem_filter.mp hw).2⟩)) ab_X0_IllegalStateException (vx_c (hE.t m_283 rfl) (vx_c (hE.t m_182 rfl) (vx_c (hE.t m_184 rfl) (vx_c (hE.t m_186 rfl) vx_n))))) gd_X0_IllegalStateException hE.zu hE.zn hS (by rw [hml]; exact hl.1) dX0_needRun_10 dX0_needRun_13 dX0_needRun_14 dX0_needRun_16 dX0_needRun_19 (fun x hx => (hne x hx).elim) (by decide) (by decide) (by decide) (by decide) hlocks (fun t hvm h1 h2 => ⟨(), trivial, ⟨⟨rfl, by simpa using c_7⟩, (thr_B hP hK hD hS hvm h1 h2).1⟩, (thr_B hP hK hD hS hvm h1 h2).2⟩) hS.2.2 (by decide) (by decide)
set_option maxHeartbeats 4000000 in
set_option maxRecDepth 100000 in
/-- share -/
theorem c_X0_share (l : Launch) (hl9 : l.stackTraces = false) (dC : Nat → ClassId) (dI : Nat → Nat → Nat) (c0 : ClassId) (a : Nat → Nat) (sz : Nat) (n : Nat) (wk sd bt lt lo rk ad vl bg cm : Nat → Int32) (sp gd rf : Int32) (ct : Nat) (rd : Int32) (sm : Int64) (js sn wl : Int32) (k : Int32) (w : Int32) (x : Int32) (b : Int32) (hn : n ≤ 40) : vx_Met l yX0_share wsX0_share ({ frames := 7, cells := 2, slots := 12, locals := 103 }) (va_Pc [.ref (a 0), .int k, .int w, .int x, .int b] (PX dC dI c0 a (n, wk, sd, bt, lt, lo, rk, ad, vl, bg, cm, sp, gd, rf, ct, rd, sm, js, sn, wl) sz)) (va_Qi (fun (r : Int32) (u : xS) => f_share (n, wk, sd, bt, lt, lo, rk, ad, vl, bg, cm, sp, gd, rf, ct, rd, sm, js, sn, wl) k w x b = (0, r.toInt64, u)) (BX dC dI c0 a (va_A (wX c0 a (n, wk, sd, bt, lt, lo, rk, ad, vl, bg, cm, sp, gd, rf, ct, rd, sm, js, sn, wl)) sz)) (va_A (wX c0 a (n, wk, sd, bt, lt, lo, rk, ad, vl, bg, cm, sp, gd, rf, ct, rd, sm, js, sn, wl)) sz)) (vx_X (fun _ : Unit => True) (fun (E : String) (_ : Unit) t => ((E = "java/lang/IndexOutOfBoundsException" ∧ f_share (n, wk, sd, bt, lt, lo, rk, ad, vl, bg, cm, sp, gd, rf, ct, rd, sm, js, sn, wl) k w x b = (1, 0, (n, wk, sd, bt, lt, lo, rk, ad, vl, bg, cm, sp, gd, rf, ct, rd, sm, js, sn, wl))) ∨ (E = "java/lang/IllegalArgumentException" ∧ f_share (n, wk, sd, bt, lt, lo, rk, ad, vl, bg, cm, sp, gd, rf, ct, rd, sm, js, sn, wl) k w x b = (2, 0, (n, wk, sd, bt, lt, lo, rk, ad, vl, bg, cm, sp, gd, rf, ct, rd, sm, js, sn, wl)))) ∧ BX dC dI c0 a (va_A (wX c0 a (n, wk, sd, bt, lt, lo, rk, ad, vl, bg, cm, sp, gd, rf, ct, rd, sm, js, sn, wl)) sz) (n, wk, sd, bt, lt, lo, rk, ad, vl, bg, cm, sp, gd, rf, ct, rd, sm, js, sn, wl) t) (va_A (wX c0 a (n, wk, sd, bt, lt, lo, rk, ad, vl, bg, cm, sp, gd, rf, ct, rd, sm, js, sn, wl)) sz)) 2 12 (va_A (wX c0 a (n, wk, sd, bt, lt, lo, rk, ad, vl, bg, cm, sp, gd, rf, ct, rd, sm, js, sn, wl)) sz) := by
  refine vx_ofW (cc := cX0_share) (maxL := 6) (ret := (some .int)) (by decide) rfl ?_
  intro p e s m args below meth c s₁ B hml hne hv
  obtain ⟨rfl, hsz, hP, hK, hD0, hE⟩ := hv
  have hx := B.exec
  have hb := B.bytes
  have hr := B.returns
  have hown : s.vm.findClass RX0 = some m.cls := findClass_of_methodNamed B.named
  have hlocks := B.notSynchronized
  subst hsz
  have hD := hD0.self (sz := s.heap.size)
  generalize hAe : va_A (wX c0 a (n, wk, sd, bt, lt, lo, rk, ad, vl, bg, cm, sp, gd, rf, ct, rd, sm, js, sn, wl)) s.heap.size = A at hD hE ⊢
  have hts := hE.ts (args := ([.ref (a 0), .int k, .int w, .int x, .int b] : List Value).toArray)
  have hA : ∀ q : Nat, s.heap.size ≤ q → A q := fun q h => by rw [← hAe]; exact Or.inr h
  have hS : va_S A s.heap s.heap [] := va_S.rf
  have hP : va_P (dC, dI) vwCl (wX c0 a (n, wk, sd, bt, lt, lo, rk, ad, vl, bg, cm, sp, gd, rf, ct, rd, sm, js, sn, wl)) s.heap := hP
  have hl := lv_entry ([.ref (a 0), .int k, .int w, .int x, .int b]) (n := 6) (Nat.le_of_ble_eq_true rfl)
  rw [lg_entry_eq]
  generalize (lg_sl ([.ref (a 0), .int k, .int w, .int x, .int b]) ++ List.replicate (6 - (lg_sl ([.ref (a 0), .int k, .int w, .int x, .int b])).length) Slot.unset).toArray = ls at hl ⊢
  have hl : lv_has ls 6 [(0, .ref (a 0)), (1, .int k), (2, .int w), (3, .int x), (4, .int b)] := hl
  refine lv_aload_n hx hb dX0_share_0 rfl (lv_at hl 0 rfl) ?_
  refine lv_iload_n hx hb dX0_share_1 rfl (lv_at hl 1 rfl) ?_
  have hFc := fre hD hS hA
  refine vx_callv (vx_runV (As := [.int k]) (rest := []) ⟨hx, hb, hml, hown, hts⟩ (c_X0_needShare l hl9 dC dI c0 a _ n wk sd bt lt lo rk ad vl bg cm sp gd rf ct rd sm js sn wl k) (cwV 1 hts gX0_share_X0_needShare rfl rfl rfl (by decide +kernel) ⟨(Nat.le_of_ble_eq_true rfl), (Nat.le_of_ble_eq_true rfl)⟩) ⟨PX_blind, va_recv hK hP (ci := 0) (q0 := 0) rfl rfl, PX_give hP hK hD hE hS hFc⟩ rfl rfl hl.1 rfl (lv_room (Nat.le_of_ble_eq_true rfl)) dX0_share_2 ⟨by decide, by decide⟩) hS (fun q _ h => hFc q h) hFc (fun q _ h => hFc q h) (fun E ce q9 u t H1 locs ht hvm hw hB hz1 hk1 hS hce hcv hcl => ?_) (fun u t H1 locs ht hvm hw hB hz1 hk1 hS => ?_)
  · skip
    obtain ⟨hEE, hB⟩ := hB
    obtain ⟨hP, hD⟩ := PX_take ht hFc hB
    exact vx_out (E := E) (fun x hx => (hne x hx).elim) hlocks hce hcv hcl (fun t ht ha => ⟨(), trivial, ⟨Or.inl ⟨hEE.1, (by rcases hEE.2 with h9 | h9 <;> simp only [f_share, h9, ↓reduceIte, ite_self])⟩, by rw [ht]; exact hP, va_K.moved ha hK, hD⟩, hS.F ht⟩) hS.2.2 (by decide) (by decide)
  · skip
    obtain ⟨⟨hq1, hq2⟩, rfl⟩ := hw
    obtain ⟨hP, hD⟩ := PX_take ht hFc hB
    generalize H1 = H at hP hS ⊢
    have hP : va_P (dC, dI) vwCl (wX c0 a (n, wk, sd, bt, lt, lo, rk, ad, vl, bg, cm, sp, gd, rf, ct, rd, sm, js, sn, wl)) H := hP
    have hD : va_D A (wX c0 a (n, wk, sd, bt, lt, lo, rk, ad, vl, bg, cm, sp, gd, rf, ct, rd, sm, js, sn, wl)) := hD
    have hk : vp_in k n := in_of hq1 hq2 (by omega)
    refine lv_iload_n hx hb dX0_share_5 rfl (lv_at hl 2 rfl) ?_
    refine lv_iconst (v := 1) hx hb dX0_share_6 (by decide) ?_
    refine lv_icmp_lt (tgt := 16) hx hb dX0_share_7 (by decide) (fun c_7 => ?_) (fun c_7 => ?_)
    · skip
      obtain ⟨sa, hsa⟩ := hE.st (RX0, 50, "work is not 1 .. 30") (by decide)
      exact vx_throwS (own := RX0) (cls := "java/lang/IllegalArgumentException") (text := "work is not 1 .. 30") (names := ["java/lang/RuntimeException", "java/lang/Exception"]) (ik := 48) (is := 50) (ic := 52) hx hb hl9 hown (by decide +kernel) (by decide +kernel) (hE.t m_246 rfl) (hE.t m_32 rfl) hsa (vx_hat (L := (vx_atS RX0 52 "java/lang/IllegalArgumentException" ["java/lang/RuntimeException", "java/lang/Exception"])) (B := [.castable "java/lang/IllegalArgumentException" "java/lang/IllegalArgumentException", .declares ⟨"java/lang/RuntimeException", "<init>", "(Ljava/lang/String;)V"⟩, .declares ⟨"java/lang/Exception", "<init>", "(Ljava/lang/String;)V"⟩, .declares ⟨"java/lang/Throwable", "<init>", "(Ljava/lang/String;)V"⟩]) (fun w hw => hts w (List.mem_filter.mpr ⟨at_X0_IllegalArgumentException w hw, (List.mem_filter.mp hw).2⟩)) ab_X0_IllegalArgumentException (vx_c (hE.t m_248 rfl) (vx_c (hE.t m_182 rfl) (vx_c (hE.t m_184 rfl) (vx_c (hE.t m_186 rfl) vx_n))))) gd_X0_IllegalArgumentException hE.zu hE.zn hS (by rw [hml]; exact hl.1) dX0_share_16 dX0_share_19 dX0_share_20 dX0_share_22 dX0_share_25 (fun x hx => (hne x hx).elim) (by decide) (by decide) (by decide) (by decide) hlocks (fun t hvm h1 h2 => ⟨(), trivial, ⟨Or.inr ⟨rfl, (by simp only [f_share, c_7, hq1, hq2, ↓reduceIte])⟩, (thr_B hP hK hD hS hvm h1 h2).1⟩, (thr_B hP hK hD hS hvm h1 h2).2⟩) hS.2.2 (by decide) (by decide)
    · skip
      refine lv_iload_n hx hb dX0_share_10 rfl (lv_at hl 2 rfl) ?_
      refine lv_bipush (v := 30) hx hb dX0_share_11 (by decide) ?_
      refine lv_icmp_le (tgt := 26) hx hb dX0_share_13 (by decide) (fun c_13 => ?_) (fun c_13 => ?_)
      · skip
        refine lv_iload hx hb dX0_share_26 (lv_at hl 4 rfl) ?_
        refine lv_if_lt (tgt := 38) hx hb dX0_share_28 (by decide) (fun c_28 => ?_) (fun c_28 => ?_)
        · skip
          obtain ⟨sa, hsa⟩ := hE.st (RX0, 55, "bits are not 0 .. 8") (by decide)
          exact vx_throwS (own := RX0) (cls := "java/lang/IllegalArgumentException") (text := "bits are not 0 .. 8") (names := ["java/lang/RuntimeException", "java/lang/Exception"]) (ik := 48) (is := 55) (ic := 52) hx hb hl9 hown (by decide +kernel) (by decide +kernel) (hE.t m_246 rfl) (hE.t m_32 rfl) hsa (vx_hat (L := (vx_atS RX0 52 "java/lang/IllegalArgumentException" ["java/lang/RuntimeException", "java/lang/Exception"])) (B := [.castable "java/lang/IllegalArgumentException" "java/lang/IllegalArgumentException", .declares ⟨"java/lang/RuntimeException", "<init>", "(Ljava/lang/String;)V"⟩, .declares ⟨"java/lang/Exception", "<init>", "(Ljava/lang/String;)V"⟩, .declares ⟨"java/lang/Throwable", "<init>", "(Ljava/lang/String;)V"⟩]) (fun w hw => hts w (List.mem_filter.mpr ⟨at_X0_IllegalArgumentException w hw, (List.mem_filter.mp hw).2⟩)) ab_X0_IllegalArgumentException (vx_c (hE.t m_248 rfl) (vx_c (hE.t m_182 rfl) (vx_c (hE.t m_184 rfl) (vx_c (hE.t m_186 rfl) vx_n))))) gd_X0_IllegalArgumentException hE.zu hE.zn hS (by rw [hml]; exact hl.1) dX0_share_38 dX0_share_41 dX0_share_42 dX0_share_44 dX0_share_47 (fun x hx => (hne x hx).elim) (by decide) (by decide) (by decide) (by decide) hlocks (fun t hvm h1 h2 => ⟨(), trivial, ⟨Or.inr ⟨rfl, (by simp only [f_share, c_7, c_13, c_28, hq1, hq2, ↓reduceIte])⟩, (thr_B hP hK hD hS hvm h1 h2).1⟩, (thr_B hP hK hD hS hvm h1 h2).2⟩) hS.2.2 (by decide) (by decide)
        · skip
          refine lv_iload hx hb dX0_share_31 (lv_at hl 4 rfl) ?_
          refine lv_bipush (v := 8) hx hb dX0_share_33 (by decide) ?_
          refine lv_icmp_le (tgt := 48) hx hb dX0_share_35 (by decide) (fun c_35 => ?_) (fun c_35 => ?_)
          · skip
            refine lv_aload_n hx hb dX0_share_48 rfl (lv_at hl 0 rfl) ?_
            refine va_get (D := (dC, dI)) (ci := 0) (v := .ref (a 1)) (C := RX0) (T := TX0) (N := 6) hx hb hts inX0 hown hK hP 0 rfl rfl 0 (by decide) (hE.t m_143 rfl) (fun _ h9 => h9) rfl dX0_share_49 ?_
            refine va_getN (D := (dC, dI)) (ci := 1) (v := .ref (a 4)) (C := RX1) (T := TX1) (N := 6) hx hb hts inX1 hown hK hP 1 rfl rfl 1 (by decide) (hE.t m_61 rfl) (fun _ h9 => h9) rfl dX0_share_52 ?_
            refine lv_iload_n hx hb dX0_share_55 rfl (lv_at hl 1 rfl) ?_
            refine va_iald hx hb hK hP 4 0 rfl rfl hk dX0_share_56 ?_
            refine lv_istore (lv' := [(5, .int (wk k.toNatClampNeg)), (0, .ref (a 0)), (1, .int k), (2, .int w), (3, .int x), (4, .int b)]) hx hb dX0_share_57 hl (by decide) rfl (fun ls hl => ?_)
            refine lv_aload_n hx hb dX0_share_59 rfl (lv_at hl 1 rfl) ?_
            refine va_get (D := (dC, dI)) (ci := 0) (v := .ref (a 1)) (C := RX0) (T := TX0) (N := 6) hx hb hts inX0 hown hK hP 0 rfl rfl 0 (by decide) (hE.t m_143 rfl) (fun _ h9 => h9) rfl dX0_share_60 ?_
            refine va_getN (D := (dC, dI)) (ci := 1) (v := .ref (a 4)) (C := RX1) (T := TX1) (N := 6) hx hb hts inX1 hown hK hP 1 rfl rfl 1 (by decide) (hE.t m_61 rfl) (fun _ h9 => h9) rfl dX0_share_63 ?_
            refine lv_iload_n hx hb dX0_share_66 rfl (lv_at hl 2 rfl) ?_
            refine lv_iload_n hx hb dX0_share_67 rfl (lv_at hl 3 rfl) ?_
            refine va_iast hx hb hK hP hD hS 4 0 rfl rfl hk dX0_share_68 (fun H locs hP hD hS => ?_)
            have hP : va_P (dC, dI) vwCl (wX c0 a (n, upd wk k.toNatClampNeg w, sd, bt, lt, lo, rk, ad, vl, bg, cm, sp, gd, rf, ct, rd, sm, js, sn, wl)) H := hP
            have hD : va_D A (wX c0 a (n, upd wk k.toNatClampNeg w, sd, bt, lt, lo, rk, ad, vl, bg, cm, sp, gd, rf, ct, rd, sm, js, sn, wl)) := hD
            refine lv_aload_n hx hb dX0_share_69 rfl (lv_at hl 1 rfl) ?_
            refine va_get (D := (dC, dI)) (ci := 0) (v := .ref (a 1)) (C := RX0) (T := TX0) (N := 6) hx hb hts inX0 hown hK hP 0 rfl rfl 0 (by decide) (hE.t m_143 rfl) (fun _ h9 => h9) rfl dX0_share_70 ?_
            refine va_getN (D := (dC, dI)) (ci := 1) (v := .ref (a 5)) (C := RX1) (T := TX1) (N := 6) hx hb hts inX1 hown hK hP 1 rfl rfl 2 (by decide) (hE.t m_63 rfl) (fun _ h9 => h9) rfl dX0_share_73 ?_
            refine lv_iload_n hx hb dX0_share_76 rfl (lv_at hl 2 rfl) ?_
            refine lv_iload_n hx hb dX0_share_77 rfl (lv_at hl 4 rfl) ?_
            refine va_iast hx hb hK hP hD hS 5 0 rfl rfl hk dX0_share_78 (fun H locs hP hD hS => ?_)
            have hP : va_P (dC, dI) vwCl (wX c0 a (n, upd wk k.toNatClampNeg w, upd sd k.toNatClampNeg x, bt, lt, lo, rk, ad, vl, bg, cm, sp, gd, rf, ct, rd, sm, js, sn, wl)) H := hP
            have hD : va_D A (wX c0 a (n, upd wk k.toNatClampNeg w, upd sd k.toNatClampNeg x, bt, lt, lo, rk, ad, vl, bg, cm, sp, gd, rf, ct, rd, sm, js, sn, wl)) := hD
            refine lv_aload_n hx hb dX0_share_79 rfl (lv_at hl 1 rfl) ?_
            refine va_get (D := (dC, dI)) (ci := 0) (v := .ref (a 1)) (C := RX0) (T := TX0) (N := 6) hx hb hts inX0 hown hK hP 0 rfl rfl 0 (by decide) (hE.t m_143 rfl) (fun _ h9 => h9) rfl dX0_share_80 ?_
            refine va_getN (D := (dC, dI)) (ci := 1) (v := .ref (a 6)) (C := RX1) (T := TX1) (N := 6) hx hb hts inX1 hown hK hP 1 rfl rfl 3 (by decide) (hE.t m_65 rfl) (fun _ h9 => h9) rfl dX0_share_83 ?_
            refine lv_iload_n hx hb dX0_share_86 rfl (lv_at hl 2 rfl) ?_
            refine lv_iload hx hb dX0_share_87 (lv_at hl 5 rfl) ?_
            refine va_iast hx hb hK hP hD hS 6 0 rfl rfl hk dX0_share_89 (fun H locs hP hD hS => ?_)
            have hP : va_P (dC, dI) vwCl (wX c0 a (n, upd wk k.toNatClampNeg w, upd sd k.toNatClampNeg x, upd bt k.toNatClampNeg b, lt, lo, rk, ad, vl, bg, cm, sp, gd, rf, ct, rd, sm, js, sn, wl)) H := hP
            have hD : va_D A (wX c0 a (n, upd wk k.toNatClampNeg w, upd sd k.toNatClampNeg x, upd bt k.toNatClampNeg b, lt, lo, rk, ad, vl, bg, cm, sp, gd, rf, ct, rd, sm, js, sn, wl)) := hD
            refine lv_iload hx hb dX0_share_90 (lv_at hl 0 rfl) ?_
            refine vx_ret ?_
            refine W.widen (k := 2) (n := 12) (by omega) (by omega) ?_
            exact W.iret (v := wk k.toNatClampNeg) hx hb hr (fun t ht hW => ⟨⟨wk k.toNatClampNeg, (n, upd wk k.toNatClampNeg w, upd sd k.toNatClampNeg x, upd bt k.toNatClampNeg b, lt, lo, rk, ad, vl, bg, cm, sp, gd, rf, ct, rd, sm, js, sn, wl), rfl, (by simp only [f_share, c_7, c_13, c_28, c_35, hq1, hq2, ↓reduceIte]), by rw [ht]; exact hP, va_K.moved hW.alike hK, hD⟩, hS.F ht⟩) hS.2.2 dX0_share_92
          · skip
            obtain ⟨sa, hsa⟩ := hE.st (RX0, 55, "bits are not 0 .. 8") (by decide)
            exact vx_throwS (own := RX0) (cls := "java/lang/IllegalArgumentException") (text := "bits are not 0 .. 8") (names := ["java/lang/RuntimeException", "java/lang/Exception"]) (ik := 48) (is := 55) (ic := 52) hx hb hl9 hown (by decide +kernel) (by decide +kernel) (hE.t m_246 rfl) (hE.t m_32 rfl) hsa (vx_hat (L := (vx_atS RX0 52 "java/lang/IllegalArgumentException" ["java/lang/RuntimeException", "java/lang/Exception"])) (B := [.castable "java/lang/IllegalArgumentException" "java/lang/IllegalArgumentException", .declares ⟨"java/lang/RuntimeException", "<init>", "(Ljava/lang/String;)V"⟩, .declares ⟨"java/lang/Exception", "<init>", "(Ljava/lang/String;)V"⟩, .declares ⟨"java/lang/Throwable", "<init>", "(Ljava/lang/String;)V"⟩]) (fun w hw => hts w (List.mem_filter.mpr ⟨at_X0_IllegalArgumentException w hw, (List.mem_filter.mp hw).2⟩)) ab_X0_IllegalArgumentException (vx_c (hE.t m_248 rfl) (vx_c (hE.t m_182 rfl) (vx_c (hE.t m_184 rfl) (vx_c (hE.t m_186 rfl) vx_n))))) gd_X0_IllegalArgumentException hE.zu hE.zn hS (by rw [hml]; exact hl.1) dX0_share_38 dX0_share_41 dX0_share_42 dX0_share_44 dX0_share_47 (fun x hx => (hne x hx).elim) (by decide) (by decide) (by decide) (by decide) hlocks (fun t hvm h1 h2 => ⟨(), trivial, ⟨Or.inr ⟨rfl, (by simp only [f_share, c_7, c_13, c_28, c_35, hq1, hq2, ↓reduceIte])⟩, (thr_B hP hK hD hS hvm h1 h2).1⟩, (thr_B hP hK hD hS hvm h1 h2).2⟩) hS.2.2 (by decide) (by decide)
      · skip
        obtain ⟨sa, hsa⟩ := hE.st (RX0, 50, "work is not 1 .. 30") (by decide)
        exact vx_throwS (own := RX0) (cls := "java/lang/IllegalArgumentException") (text := "work is not 1 .. 30") (names := ["java/lang/RuntimeException", "java/lang/Exception"]) (ik := 48) (is := 50) (ic := 52) hx hb hl9 hown (by decide +kernel) (by decide +kernel) (hE.t m_246 rfl) (hE.t m_32 rfl) hsa (vx_hat (L := (vx_atS RX0 52 "java/lang/IllegalArgumentException" ["java/lang/RuntimeException", "java/lang/Exception"])) (B := [.castable "java/lang/IllegalArgumentException" "java/lang/IllegalArgumentException", .declares ⟨"java/lang/RuntimeException", "<init>", "(Ljava/lang/String;)V"⟩, .declares ⟨"java/lang/Exception", "<init>", "(Ljava/lang/String;)V"⟩, .declares ⟨"java/lang/Throwable", "<init>", "(Ljava/lang/String;)V"⟩]) (fun w hw => hts w (List.mem_filter.mpr ⟨at_X0_IllegalArgumentException w hw, (List.mem_filter.mp hw).2⟩)) ab_X0_IllegalArgumentException (vx_c (hE.t m_248 rfl) (vx_c (hE.t m_182 rfl) (vx_c (hE.t m_184 rfl) (vx_c (hE.t m_186 rfl) vx_n))))) gd_X0_IllegalArgumentException hE.zu hE.zn hS (by rw [hml]; exact hl.1) dX0_share_16 dX0_share_19 dX0_share_20 dX0_share_22 dX0_share_25 (fun x hx => (hne x hx).elim) (by decide) (by decide) (by decide) (by decide) hlocks (fun t hvm h1 h2 => ⟨(), trivial, ⟨Or.inr ⟨rfl, (by simp only [f_share, c_7, c_13, hq1, hq2, ↓reduceIte])⟩, (thr_B hP hK hD hS hvm h1 h2).1⟩, (thr_B hP hK hD hS hvm h1 h2).2⟩) hS.2.2 (by decide) (by decide)
set_option maxHeartbeats 4000000 in
set_option maxRecDepth 100000 in
/-- fails -/
theorem c_X0_fails (l : Launch) (hl9 : l.stackTraces = false) (dC : Nat → ClassId) (dI : Nat → Nat → Nat) (c0 : ClassId) (a : Nat → Nat) (sz : Nat) (n : Nat) (wk sd bt lt lo rk ad vl bg cm : Nat → Int32) (sp gd rf : Int32) (ct : Nat) (rd : Int32) (sm : Int64) (js sn wl : Int32) (k : Int32) (w : Int32) (x : Int32) (hn : n ≤ 40) : vx_Met l yX0_fails wsX0_fails ({ frames := 7, cells := 2, slots := 12, locals := 103 }) (va_Pc [.ref (a 0), .int k, .int w, .int x] (PX dC dI c0 a (n, wk, sd, bt, lt, lo, rk, ad, vl, bg, cm, sp, gd, rf, ct, rd, sm, js, sn, wl) sz)) (va_Qi (fun (r : Int32) (u : xS) => f_fails (n, wk, sd, bt, lt, lo, rk, ad, vl, bg, cm, sp, gd, rf, ct, rd, sm, js, sn, wl) k w x = (0, r.toInt64, u)) (BX dC dI c0 a (va_A (wX c0 a (n, wk, sd, bt, lt, lo, rk, ad, vl, bg, cm, sp, gd, rf, ct, rd, sm, js, sn, wl)) sz)) (va_A (wX c0 a (n, wk, sd, bt, lt, lo, rk, ad, vl, bg, cm, sp, gd, rf, ct, rd, sm, js, sn, wl)) sz)) (vx_X (fun _ : Unit => True) (fun (E : String) (_ : Unit) t => ((E = "java/lang/IndexOutOfBoundsException" ∧ f_fails (n, wk, sd, bt, lt, lo, rk, ad, vl, bg, cm, sp, gd, rf, ct, rd, sm, js, sn, wl) k w x = (1, 0, (n, wk, sd, bt, lt, lo, rk, ad, vl, bg, cm, sp, gd, rf, ct, rd, sm, js, sn, wl))) ∨ (E = "java/lang/IllegalArgumentException" ∧ f_fails (n, wk, sd, bt, lt, lo, rk, ad, vl, bg, cm, sp, gd, rf, ct, rd, sm, js, sn, wl) k w x = (2, 0, (n, wk, sd, bt, lt, lo, rk, ad, vl, bg, cm, sp, gd, rf, ct, rd, sm, js, sn, wl)))) ∧ BX dC dI c0 a (va_A (wX c0 a (n, wk, sd, bt, lt, lo, rk, ad, vl, bg, cm, sp, gd, rf, ct, rd, sm, js, sn, wl)) sz) (n, wk, sd, bt, lt, lo, rk, ad, vl, bg, cm, sp, gd, rf, ct, rd, sm, js, sn, wl) t) (va_A (wX c0 a (n, wk, sd, bt, lt, lo, rk, ad, vl, bg, cm, sp, gd, rf, ct, rd, sm, js, sn, wl)) sz)) 2 12 (va_A (wX c0 a (n, wk, sd, bt, lt, lo, rk, ad, vl, bg, cm, sp, gd, rf, ct, rd, sm, js, sn, wl)) sz) := by
  refine vx_ofW (cc := cX0_fails) (maxL := 5) (ret := (some .int)) (by decide) rfl ?_
  intro p e s m args below meth c s₁ B hml hne hv
  obtain ⟨rfl, hsz, hP, hK, hD0, hE⟩ := hv
  have hx := B.exec
  have hb := B.bytes
  have hr := B.returns
  have hown : s.vm.findClass RX0 = some m.cls := findClass_of_methodNamed B.named
  have hlocks := B.notSynchronized
  subst hsz
  have hD := hD0.self (sz := s.heap.size)
  generalize hAe : va_A (wX c0 a (n, wk, sd, bt, lt, lo, rk, ad, vl, bg, cm, sp, gd, rf, ct, rd, sm, js, sn, wl)) s.heap.size = A at hD hE ⊢
  have hts := hE.ts (args := ([.ref (a 0), .int k, .int w, .int x] : List Value).toArray)
  have hA : ∀ q : Nat, s.heap.size ≤ q → A q := fun q h => by rw [← hAe]; exact Or.inr h
  have hS : va_S A s.heap s.heap [] := va_S.rf
  have hP : va_P (dC, dI) vwCl (wX c0 a (n, wk, sd, bt, lt, lo, rk, ad, vl, bg, cm, sp, gd, rf, ct, rd, sm, js, sn, wl)) s.heap := hP
  have hl := lv_entry ([.ref (a 0), .int k, .int w, .int x]) (n := 5) (Nat.le_of_ble_eq_true rfl)
  rw [lg_entry_eq]
  generalize (lg_sl ([.ref (a 0), .int k, .int w, .int x]) ++ List.replicate (5 - (lg_sl ([.ref (a 0), .int k, .int w, .int x])).length) Slot.unset).toArray = ls at hl ⊢
  have hl : lv_has ls 5 [(0, .ref (a 0)), (1, .int k), (2, .int w), (3, .int x)] := hl
  refine lv_aload_n hx hb dX0_fails_0 rfl (lv_at hl 0 rfl) ?_
  refine lv_iload_n hx hb dX0_fails_1 rfl (lv_at hl 1 rfl) ?_
  have hFc := fre hD hS hA
  refine vx_callv (vx_runV (As := [.int k]) (rest := []) ⟨hx, hb, hml, hown, hts⟩ (c_X0_needShare l hl9 dC dI c0 a _ n wk sd bt lt lo rk ad vl bg cm sp gd rf ct rd sm js sn wl k) (cwV 1 hts gX0_fails_X0_needShare rfl rfl rfl (by decide +kernel) ⟨(Nat.le_of_ble_eq_true rfl), (Nat.le_of_ble_eq_true rfl)⟩) ⟨PX_blind, va_recv hK hP (ci := 0) (q0 := 0) rfl rfl, PX_give hP hK hD hE hS hFc⟩ rfl rfl hl.1 rfl (lv_room (Nat.le_of_ble_eq_true rfl)) dX0_fails_2 ⟨by decide, by decide⟩) hS (fun q _ h => hFc q h) hFc (fun q _ h => hFc q h) (fun E ce q9 u t H1 locs ht hvm hw hB hz1 hk1 hS hce hcv hcl => ?_) (fun u t H1 locs ht hvm hw hB hz1 hk1 hS => ?_)
  · skip
    obtain ⟨hEE, hB⟩ := hB
    obtain ⟨hP, hD⟩ := PX_take ht hFc hB
    exact vx_out (E := E) (fun x hx => (hne x hx).elim) hlocks hce hcv hcl (fun t ht ha => ⟨(), trivial, ⟨Or.inl ⟨hEE.1, (by rcases hEE.2 with h9 | h9 <;> simp only [f_fails, h9, ↓reduceIte, ite_self])⟩, by rw [ht]; exact hP, va_K.moved ha hK, hD⟩, hS.F ht⟩) hS.2.2 (by decide) (by decide)
  · skip
    obtain ⟨⟨hq1, hq2⟩, rfl⟩ := hw
    obtain ⟨hP, hD⟩ := PX_take ht hFc hB
    generalize H1 = H at hP hS ⊢
    have hP : va_P (dC, dI) vwCl (wX c0 a (n, wk, sd, bt, lt, lo, rk, ad, vl, bg, cm, sp, gd, rf, ct, rd, sm, js, sn, wl)) H := hP
    have hD : va_D A (wX c0 a (n, wk, sd, bt, lt, lo, rk, ad, vl, bg, cm, sp, gd, rf, ct, rd, sm, js, sn, wl)) := hD
    have hk : vp_in k n := in_of hq1 hq2 (by omega)
    refine lv_iload_n hx hb dX0_fails_5 rfl (lv_at hl 2 rfl) ?_
    refine lv_iconst (v := 1) hx hb dX0_fails_6 (by decide) ?_
    refine lv_icmp_lt (tgt := 16) hx hb dX0_fails_7 (by decide) (fun c_7 => ?_) (fun c_7 => ?_)
    · skip
      obtain ⟨sa, hsa⟩ := hE.st (RX0, 67, "step is not 1 .. 30") (by decide)
      exact vx_throwS (own := RX0) (cls := "java/lang/IllegalArgumentException") (text := "step is not 1 .. 30") (names := ["java/lang/RuntimeException", "java/lang/Exception"]) (ik := 48) (is := 67) (ic := 52) hx hb hl9 hown (by decide +kernel) (by decide +kernel) (hE.t m_246 rfl) (hE.t m_32 rfl) hsa (vx_hat (L := (vx_atS RX0 52 "java/lang/IllegalArgumentException" ["java/lang/RuntimeException", "java/lang/Exception"])) (B := [.castable "java/lang/IllegalArgumentException" "java/lang/IllegalArgumentException", .declares ⟨"java/lang/RuntimeException", "<init>", "(Ljava/lang/String;)V"⟩, .declares ⟨"java/lang/Exception", "<init>", "(Ljava/lang/String;)V"⟩, .declares ⟨"java/lang/Throwable", "<init>", "(Ljava/lang/String;)V"⟩]) (fun w hw => hts w (List.mem_filter.mpr ⟨at_X0_IllegalArgumentException w hw, (List.mem_filter.mp hw).2⟩)) ab_X0_IllegalArgumentException (vx_c (hE.t m_248 rfl) (vx_c (hE.t m_182 rfl) (vx_c (hE.t m_184 rfl) (vx_c (hE.t m_186 rfl) vx_n))))) gd_X0_IllegalArgumentException hE.zu hE.zn hS (by rw [hml]; exact hl.1) dX0_fails_16 dX0_fails_19 dX0_fails_20 dX0_fails_22 dX0_fails_25 (fun x hx => (hne x hx).elim) (by decide) (by decide) (by decide) (by decide) hlocks (fun t hvm h1 h2 => ⟨(), trivial, ⟨Or.inr ⟨rfl, (by simp only [f_fails, c_7, hq1, hq2, ↓reduceIte])⟩, (thr_B hP hK hD hS hvm h1 h2).1⟩, (thr_B hP hK hD hS hvm h1 h2).2⟩) hS.2.2 (by decide) (by decide)
    · skip
      refine lv_iload_n hx hb dX0_fails_10 rfl (lv_at hl 2 rfl) ?_
      refine lv_bipush (v := 30) hx hb dX0_fails_11 (by decide) ?_
      refine lv_icmp_le (tgt := 26) hx hb dX0_fails_13 (by decide) (fun c_13 => ?_) (fun c_13 => ?_)
      · skip
        refine lv_iload_n hx hb dX0_fails_26 rfl (lv_at hl 3 rfl) ?_
        refine lv_if_lt (tgt := 35) hx hb dX0_fails_27 (by decide) (fun c_27 => ?_) (fun c_27 => ?_)
        · skip
          obtain ⟨sa, hsa⟩ := hE.st (RX0, 69, "times is not 0 .. 4") (by decide)
          exact vx_throwS (own := RX0) (cls := "java/lang/IllegalArgumentException") (text := "times is not 0 .. 4") (names := ["java/lang/RuntimeException", "java/lang/Exception"]) (ik := 48) (is := 69) (ic := 52) hx hb hl9 hown (by decide +kernel) (by decide +kernel) (hE.t m_246 rfl) (hE.t m_32 rfl) hsa (vx_hat (L := (vx_atS RX0 52 "java/lang/IllegalArgumentException" ["java/lang/RuntimeException", "java/lang/Exception"])) (B := [.castable "java/lang/IllegalArgumentException" "java/lang/IllegalArgumentException", .declares ⟨"java/lang/RuntimeException", "<init>", "(Ljava/lang/String;)V"⟩, .declares ⟨"java/lang/Exception", "<init>", "(Ljava/lang/String;)V"⟩, .declares ⟨"java/lang/Throwable", "<init>", "(Ljava/lang/String;)V"⟩]) (fun w hw => hts w (List.mem_filter.mpr ⟨at_X0_IllegalArgumentException w hw, (List.mem_filter.mp hw).2⟩)) ab_X0_IllegalArgumentException (vx_c (hE.t m_248 rfl) (vx_c (hE.t m_182 rfl) (vx_c (hE.t m_184 rfl) (vx_c (hE.t m_186 rfl) vx_n))))) gd_X0_IllegalArgumentException hE.zu hE.zn hS (by rw [hml]; exact hl.1) dX0_fails_35 dX0_fails_38 dX0_fails_39 dX0_fails_41 dX0_fails_44 (fun x hx => (hne x hx).elim) (by decide) (by decide) (by decide) (by decide) hlocks (fun t hvm h1 h2 => ⟨(), trivial, ⟨Or.inr ⟨rfl, (by simp only [f_fails, c_7, c_13, c_27, hq1, hq2, ↓reduceIte])⟩, (thr_B hP hK hD hS hvm h1 h2).1⟩, (thr_B hP hK hD hS hvm h1 h2).2⟩) hS.2.2 (by decide) (by decide)
        · skip
          refine lv_iload_n hx hb dX0_fails_30 rfl (lv_at hl 3 rfl) ?_
          refine lv_iconst (v := 4) hx hb dX0_fails_31 (by decide) ?_
          refine lv_icmp_le (tgt := 45) hx hb dX0_fails_32 (by decide) (fun c_32 => ?_) (fun c_32 => ?_)
          · skip
            refine lv_aload_n hx hb dX0_fails_45 rfl (lv_at hl 0 rfl) ?_
            refine va_get (D := (dC, dI)) (ci := 0) (v := .ref (a 1)) (C := RX0) (T := TX0) (N := 6) hx hb hts inX0 hown hK hP 0 rfl rfl 0 (by decide) (hE.t m_143 rfl) (fun _ h9 => h9) rfl dX0_fails_46 ?_
            refine va_getN (D := (dC, dI)) (ci := 1) (v := .ref (a 8)) (C := RX1) (T := TX1) (N := 6) hx hb hts inX1 hown hK hP 1 rfl rfl 5 (by decide) (hE.t m_70 rfl) (fun _ h9 => h9) rfl dX0_fails_49 ?_
            refine lv_iload_n hx hb dX0_fails_52 rfl (lv_at hl 1 rfl) ?_
            refine va_iald hx hb hK hP 8 0 rfl rfl hk dX0_fails_53 ?_
            refine lv_istore (lv' := [(4, .int (lo k.toNatClampNeg)), (0, .ref (a 0)), (1, .int k), (2, .int w), (3, .int x)]) hx hb dX0_fails_54 hl (by decide) rfl (fun ls hl => ?_)
            refine lv_aload_n hx hb dX0_fails_56 rfl (lv_at hl 1 rfl) ?_
            refine va_get (D := (dC, dI)) (ci := 0) (v := .ref (a 1)) (C := RX0) (T := TX0) (N := 6) hx hb hts inX0 hown hK hP 0 rfl rfl 0 (by decide) (hE.t m_143 rfl) (fun _ h9 => h9) rfl dX0_fails_57 ?_
            refine va_getN (D := (dC, dI)) (ci := 1) (v := .ref (a 7)) (C := RX1) (T := TX1) (N := 6) hx hb hts inX1 hown hK hP 1 rfl rfl 4 (by decide) (hE.t m_67 rfl) (fun _ h9 => h9) rfl dX0_fails_60 ?_
            refine lv_iload_n hx hb dX0_fails_63 rfl (lv_at hl 2 rfl) ?_
            refine lv_iload_n hx hb dX0_fails_64 rfl (lv_at hl 3 rfl) ?_
            refine va_iast hx hb hK hP hD hS 7 0 rfl rfl hk dX0_fails_65 (fun H locs hP hD hS => ?_)
            have hP : va_P (dC, dI) vwCl (wX c0 a (n, wk, sd, bt, upd lt k.toNatClampNeg w, lo, rk, ad, vl, bg, cm, sp, gd, rf, ct, rd, sm, js, sn, wl)) H := hP
            have hD : va_D A (wX c0 a (n, wk, sd, bt, upd lt k.toNatClampNeg w, lo, rk, ad, vl, bg, cm, sp, gd, rf, ct, rd, sm, js, sn, wl)) := hD
            refine lv_aload_n hx hb dX0_fails_66 rfl (lv_at hl 1 rfl) ?_
            refine va_get (D := (dC, dI)) (ci := 0) (v := .ref (a 1)) (C := RX0) (T := TX0) (N := 6) hx hb hts inX0 hown hK hP 0 rfl rfl 0 (by decide) (hE.t m_143 rfl) (fun _ h9 => h9) rfl dX0_fails_67 ?_
            refine va_getN (D := (dC, dI)) (ci := 1) (v := .ref (a 8)) (C := RX1) (T := TX1) (N := 6) hx hb hts inX1 hown hK hP 1 rfl rfl 5 (by decide) (hE.t m_70 rfl) (fun _ h9 => h9) rfl dX0_fails_70 ?_
            refine lv_iload_n hx hb dX0_fails_73 rfl (lv_at hl 2 rfl) ?_
            refine lv_iload_n hx hb dX0_fails_74 rfl (lv_at hl 4 rfl) ?_
            refine va_iast hx hb hK hP hD hS 8 0 rfl rfl hk dX0_fails_75 (fun H locs hP hD hS => ?_)
            have hP : va_P (dC, dI) vwCl (wX c0 a (n, wk, sd, bt, upd lt k.toNatClampNeg w, upd lo k.toNatClampNeg x, rk, ad, vl, bg, cm, sp, gd, rf, ct, rd, sm, js, sn, wl)) H := hP
            have hD : va_D A (wX c0 a (n, wk, sd, bt, upd lt k.toNatClampNeg w, upd lo k.toNatClampNeg x, rk, ad, vl, bg, cm, sp, gd, rf, ct, rd, sm, js, sn, wl)) := hD
            refine lv_iload hx hb dX0_fails_76 (lv_at hl 0 rfl) ?_
            refine vx_ret ?_
            refine W.widen (k := 2) (n := 12) (by omega) (by omega) ?_
            exact W.iret (v := lo k.toNatClampNeg) hx hb hr (fun t ht hW => ⟨⟨lo k.toNatClampNeg, (n, wk, sd, bt, upd lt k.toNatClampNeg w, upd lo k.toNatClampNeg x, rk, ad, vl, bg, cm, sp, gd, rf, ct, rd, sm, js, sn, wl), rfl, (by simp only [f_fails, c_7, c_13, c_27, c_32, hq1, hq2, ↓reduceIte]), by rw [ht]; exact hP, va_K.moved hW.alike hK, hD⟩, hS.F ht⟩) hS.2.2 dX0_fails_78
          · skip
            obtain ⟨sa, hsa⟩ := hE.st (RX0, 69, "times is not 0 .. 4") (by decide)
            exact vx_throwS (own := RX0) (cls := "java/lang/IllegalArgumentException") (text := "times is not 0 .. 4") (names := ["java/lang/RuntimeException", "java/lang/Exception"]) (ik := 48) (is := 69) (ic := 52) hx hb hl9 hown (by decide +kernel) (by decide +kernel) (hE.t m_246 rfl) (hE.t m_32 rfl) hsa (vx_hat (L := (vx_atS RX0 52 "java/lang/IllegalArgumentException" ["java/lang/RuntimeException", "java/lang/Exception"])) (B := [.castable "java/lang/IllegalArgumentException" "java/lang/IllegalArgumentException", .declares ⟨"java/lang/RuntimeException", "<init>", "(Ljava/lang/String;)V"⟩, .declares ⟨"java/lang/Exception", "<init>", "(Ljava/lang/String;)V"⟩, .declares ⟨"java/lang/Throwable", "<init>", "(Ljava/lang/String;)V"⟩]) (fun w hw => hts w (List.mem_filter.mpr ⟨at_X0_IllegalArgumentException w hw, (List.mem_filter.mp hw).2⟩)) ab_X0_IllegalArgumentException (vx_c (hE.t m_248 rfl) (vx_c (hE.t m_182 rfl) (vx_c (hE.t m_184 rfl) (vx_c (hE.t m_186 rfl) vx_n))))) gd_X0_IllegalArgumentException hE.zu hE.zn hS (by rw [hml]; exact hl.1) dX0_fails_35 dX0_fails_38 dX0_fails_39 dX0_fails_41 dX0_fails_44 (fun x hx => (hne x hx).elim) (by decide) (by decide) (by decide) (by decide) hlocks (fun t hvm h1 h2 => ⟨(), trivial, ⟨Or.inr ⟨rfl, (by simp only [f_fails, c_7, c_13, c_27, c_32, hq1, hq2, ↓reduceIte])⟩, (thr_B hP hK hD hS hvm h1 h2).1⟩, (thr_B hP hK hD hS hvm h1 h2).2⟩) hS.2.2 (by decide) (by decide)
      · skip
        obtain ⟨sa, hsa⟩ := hE.st (RX0, 67, "step is not 1 .. 30") (by decide)
        exact vx_throwS (own := RX0) (cls := "java/lang/IllegalArgumentException") (text := "step is not 1 .. 30") (names := ["java/lang/RuntimeException", "java/lang/Exception"]) (ik := 48) (is := 67) (ic := 52) hx hb hl9 hown (by decide +kernel) (by decide +kernel) (hE.t m_246 rfl) (hE.t m_32 rfl) hsa (vx_hat (L := (vx_atS RX0 52 "java/lang/IllegalArgumentException" ["java/lang/RuntimeException", "java/lang/Exception"])) (B := [.castable "java/lang/IllegalArgumentException" "java/lang/IllegalArgumentException", .declares ⟨"java/lang/RuntimeException", "<init>", "(Ljava/lang/String;)V"⟩, .declares ⟨"java/lang/Exception", "<init>", "(Ljava/lang/String;)V"⟩, .declares ⟨"java/lang/Throwable", "<init>", "(Ljava/lang/String;)V"⟩]) (fun w hw => hts w (List.mem_filter.mpr ⟨at_X0_IllegalArgumentException w hw, (List.mem_filter.mp hw).2⟩)) ab_X0_IllegalArgumentException (vx_c (hE.t m_248 rfl) (vx_c (hE.t m_182 rfl) (vx_c (hE.t m_184 rfl) (vx_c (hE.t m_186 rfl) vx_n))))) gd_X0_IllegalArgumentException hE.zu hE.zn hS (by rw [hml]; exact hl.1) dX0_fails_16 dX0_fails_19 dX0_fails_20 dX0_fails_22 dX0_fails_25 (fun x hx => (hne x hx).elim) (by decide) (by decide) (by decide) (by decide) hlocks (fun t hvm h1 h2 => ⟨(), trivial, ⟨Or.inr ⟨rfl, (by simp only [f_fails, c_7, c_13, hq1, hq2, ↓reduceIte])⟩, (thr_B hP hK hD hS hvm h1 h2).1⟩, (thr_B hP hK hD hS hvm h1 h2).2⟩) hS.2.2 (by decide) (by decide)
set_option maxHeartbeats 4000000 in
set_option maxRecDepth 100000 in
/-- act -/
theorem c_X0_act (l : Launch) (hl9 : l.stackTraces = false) (dC : Nat → ClassId) (dI : Nat → Nat → Nat) (c0 : ClassId) (a : Nat → Nat) (sz : Nat) (n : Nat) (wk sd bt lt lo rk ad vl bg cm : Nat → Int32) (sp gd rf : Int32) (ct : Nat) (rd : Int32) (sm : Int64) (js sn wl : Int32) (k : Int32) (v : Int32) (hn : n ≤ 40) (hct9 : ct ≤ 24) : vx_Met l yX0_act wsX0_act ({ frames := 7, cells := 1, slots := 6, locals := 103 }) (va_Pc [.ref (a 0), .int k, .int v] (PX dC dI c0 a (n, wk, sd, bt, lt, lo, rk, ad, vl, bg, cm, sp, gd, rf, ct, rd, sm, js, sn, wl) sz)) (va_Qi (fun (r : Int32) (u : xS) => f_act (n, wk, sd, bt, lt, lo, rk, ad, vl, bg, cm, sp, gd, rf, ct, rd, sm, js, sn, wl) k v = (0, r.toInt64, u)) (BX dC dI c0 a (va_A (wX c0 a (n, wk, sd, bt, lt, lo, rk, ad, vl, bg, cm, sp, gd, rf, ct, rd, sm, js, sn, wl)) sz)) (va_A (wX c0 a (n, wk, sd, bt, lt, lo, rk, ad, vl, bg, cm, sp, gd, rf, ct, rd, sm, js, sn, wl)) sz)) (vx_X (fun _ : Unit => True) (fun (E : String) (_ : Unit) t => ((E = "java/lang/IndexOutOfBoundsException" ∧ f_act (n, wk, sd, bt, lt, lo, rk, ad, vl, bg, cm, sp, gd, rf, ct, rd, sm, js, sn, wl) k v = (1, 0, (n, wk, sd, bt, lt, lo, rk, ad, vl, bg, cm, sp, gd, rf, ct, rd, sm, js, sn, wl))) ∨ (E = "java/lang/IllegalStateException" ∧ f_act (n, wk, sd, bt, lt, lo, rk, ad, vl, bg, cm, sp, gd, rf, ct, rd, sm, js, sn, wl) k v = (2, 0, (n, wk, sd, bt, lt, lo, rk, ad, vl, bg, cm, sp, gd, rf, ct, rd, sm, js, sn, wl)))) ∧ BX dC dI c0 a (va_A (wX c0 a (n, wk, sd, bt, lt, lo, rk, ad, vl, bg, cm, sp, gd, rf, ct, rd, sm, js, sn, wl)) sz) (n, wk, sd, bt, lt, lo, rk, ad, vl, bg, cm, sp, gd, rf, ct, rd, sm, js, sn, wl) t) (va_A (wX c0 a (n, wk, sd, bt, lt, lo, rk, ad, vl, bg, cm, sp, gd, rf, ct, rd, sm, js, sn, wl)) sz)) 1 6 (va_A (wX c0 a (n, wk, sd, bt, lt, lo, rk, ad, vl, bg, cm, sp, gd, rf, ct, rd, sm, js, sn, wl)) sz) := by
  refine vx_ofW (cc := cX0_act) (maxL := 3) (ret := (some .int)) (by decide) rfl ?_
  intro p e s m args below meth c s₁ B hml hne hv
  obtain ⟨rfl, hsz, hP, hK, hD0, hE⟩ := hv
  have hx := B.exec
  have hb := B.bytes
  have hr := B.returns
  have hown : s.vm.findClass RX0 = some m.cls := findClass_of_methodNamed B.named
  have hlocks := B.notSynchronized
  subst hsz
  have hD := hD0.self (sz := s.heap.size)
  generalize hAe : va_A (wX c0 a (n, wk, sd, bt, lt, lo, rk, ad, vl, bg, cm, sp, gd, rf, ct, rd, sm, js, sn, wl)) s.heap.size = A at hD hE ⊢
  have hts := hE.ts (args := ([.ref (a 0), .int k, .int v] : List Value).toArray)
  have hA : ∀ q : Nat, s.heap.size ≤ q → A q := fun q h => by rw [← hAe]; exact Or.inr h
  have hS : va_S A s.heap s.heap [] := va_S.rf
  have hP : va_P (dC, dI) vwCl (wX c0 a (n, wk, sd, bt, lt, lo, rk, ad, vl, bg, cm, sp, gd, rf, ct, rd, sm, js, sn, wl)) s.heap := hP
  have hl := lv_entry ([.ref (a 0), .int k, .int v]) (n := 3) (Nat.le_of_ble_eq_true rfl)
  rw [lg_entry_eq]
  generalize (lg_sl ([.ref (a 0), .int k, .int v]) ++ List.replicate (3 - (lg_sl ([.ref (a 0), .int k, .int v])).length) Slot.unset).toArray = ls at hl ⊢
  have hl : lv_has ls 3 [(0, .ref (a 0)), (1, .int k), (2, .int v)] := hl
  refine lv_iload_n hx hb dX0_act_0 rfl (lv_at hl 1 rfl) ?_
  refine lv_if_lt (tgt := 15) hx hb dX0_act_1 (by decide) (fun c_1 => ?_) (fun c_1 => ?_)
  · skip
    obtain ⟨sa, hsa⟩ := hE.st (RX0, 82, "there is no such rank") (by decide)
    exact vx_throwS (own := RX0) (cls := "java/lang/IndexOutOfBoundsException") (text := "there is no such rank") (names := ["java/lang/RuntimeException", "java/lang/Exception"]) (ik := 80) (is := 82) (ic := 84) hx hb hl9 hown (by decide +kernel) (by decide +kernel) (hE.t m_178 rfl) (hE.t m_31 rfl) hsa (vx_hat (L := (vx_atS RX0 84 "java/lang/IndexOutOfBoundsException" ["java/lang/RuntimeException", "java/lang/Exception"])) (B := [.castable "java/lang/IndexOutOfBoundsException" "java/lang/IndexOutOfBoundsException", .declares ⟨"java/lang/RuntimeException", "<init>", "(Ljava/lang/String;)V"⟩, .declares ⟨"java/lang/Exception", "<init>", "(Ljava/lang/String;)V"⟩, .declares ⟨"java/lang/Throwable", "<init>", "(Ljava/lang/String;)V"⟩]) (fun w hw => hts w (List.mem_filter.mpr ⟨at_X0_IndexOutOfBoundsException w hw, (List.mem_filter.mp hw).2⟩)) ab_X0_IndexOutOfBoundsException (vx_c (hE.t m_180 rfl) (vx_c (hE.t m_182 rfl) (vx_c (hE.t m_184 rfl) (vx_c (hE.t m_186 rfl) vx_n))))) gd_X0_IndexOutOfBoundsException hE.zu hE.zn hS (by rw [hml]; exact hl.1) dX0_act_15 dX0_act_18 dX0_act_19 dX0_act_21 dX0_act_24 (fun x hx => (hne x hx).elim) (by decide) (by decide) (by decide) (by decide) hlocks (fun t hvm h1 h2 => ⟨(), trivial, ⟨Or.inl ⟨rfl, (by simp only [f_act, c_1, ↓reduceIte])⟩, (thr_B hP hK hD hS hvm h1 h2).1⟩, (thr_B hP hK hD hS hvm h1 h2).2⟩) hS.2.2 (by decide) (by decide)
  · skip
    refine lv_iload_n hx hb dX0_act_4 rfl (lv_at hl 1 rfl) ?_
    refine lv_aload_n hx hb dX0_act_5 rfl (lv_at hl 0 rfl) ?_
    refine va_get (D := (dC, dI)) (ci := 0) (v := .ref (a 1)) (C := RX0) (T := TX0) (N := 6) hx hb hts inX0 hown hK hP 0 rfl rfl 0 (by decide) (hE.t m_143 rfl) (fun _ h9 => h9) rfl dX0_act_6 ?_
    refine va_getN (D := (dC, dI)) (ci := 1) (v := .int (nI n)) (C := RX1) (T := TX1) (N := 6) hx hb hts inX1 hown hK hP 1 rfl rfl 0 (by decide) (hE.t m_59 rfl) (fun _ h9 => h9) rfl dX0_act_9 ?_
    refine lv_icmp_le (tgt := 25) hx hb dX0_act_12 (by decide) (fun c_12 => ?_) (fun c_12 => ?_)
    · skip
      refine lv_aload_n hx hb dX0_act_25 rfl (lv_at hl 0 rfl) ?_
      refine va_get (D := (dC, dI)) (ci := 0) (v := .ref (a 2)) (C := RX0) (T := TX0) (N := 6) hx hb hts inX0 hown hK hP 0 rfl rfl 1 (by decide) (hE.t m_144 rfl) (fun _ h9 => h9) rfl dX0_act_26 ?_
      refine va_getN (D := (dC, dI)) (ci := 2) (v := .int (nI ct)) (C := RX2) (T := TX2) (N := 3) hx hb hts inX2 hown hK hP 2 rfl rfl 2 (by decide) (hE.t m_97 rfl) (fun _ h9 => h9) rfl dX0_act_29 ?_
      refine lv_bipush (v := 24) hx hb dX0_act_32 (by decide) ?_
      refine lv_icmp_lt (tgt := 47) hx hb dX0_act_34 (by decide) (fun c_34 => ?_) (fun c_34 => ?_)
      · skip
        have hct : ct < 24 := ct_lt hct9 c_34
        refine lv_aload_n hx hb dX0_act_47 rfl (lv_at hl 0 rfl) ?_
        refine va_get (D := (dC, dI)) (ci := 0) (v := .ref (a 2)) (C := RX0) (T := TX0) (N := 6) hx hb hts inX0 hown hK hP 0 rfl rfl 1 (by decide) (hE.t m_144 rfl) (fun _ h9 => h9) rfl dX0_act_48 ?_
        refine lv_iload_n hx hb dX0_act_51 rfl (lv_at hl 1 rfl) ?_
        refine lv_iload_n hx hb dX0_act_52 rfl (lv_at hl 2 rfl) ?_
        have hFc := fre hD hS hA
        refine va_calli (va_runVN (As := [.int k, .int v]) (rest := []) ⟨hx, hb, hml, hown, hts⟩ (c_X2_append l dC dI c0 a _ n wk sd bt lt lo rk ad vl bg cm sp gd rf ct rd sm js sn wl k v hct) ⟨va_cnB (host := "DrawShares") 2 hts gX0_act_X2_append rfl rfl rfl (hE.t0 m_297 rfl) (hE.t m_25 rfl) (by decide +kernel) ⟨(Nat.le_of_ble_eq_true rfl), (Nat.le_of_ble_eq_true rfl)⟩, hE.t m_299 rfl, hE.t m_2 rfl⟩ ⟨PX_blind, va_recv hK hP (ci := 2) (q0 := 2) rfl rfl, PX_give hP hK hD hE hS hFc⟩ rfl rfl hl.1 rfl (lv_room (Nat.le_of_ble_eq_true rfl)) dX0_act_53 ⟨by decide, by decide⟩) hS (fun q _ h => hFc q h) hFc (fun r_53 u t H1 locs ht hvm hw hB hz1 hk1 hS => ?_)
        obtain ⟨rfl, rfl⟩ := hw
        obtain ⟨hP, hD⟩ := PX_take ht hFc hB
        generalize H1 = H at hP hS ⊢
        have hP : va_P (dC, dI) vwCl (wX c0 a (n, wk, sd, bt, lt, lo, upd rk ct k, upd ad ct v, vl, bg, cm, sp, gd, rf, ct + 1, rd, sm, js, sn, wl)) H := hP
        have hD : va_D A (wX c0 a (n, wk, sd, bt, lt, lo, upd rk ct k, upd ad ct v, vl, bg, cm, sp, gd, rf, ct + 1, rd, sm, js, sn, wl)) := hD
        refine vx_ret ?_
        refine W.widen (k := 1) (n := 6) (by omega) (by omega) ?_
        exact W.iret (v := nI ct) hx hb hr (fun t ht hW => ⟨⟨nI ct, (n, wk, sd, bt, lt, lo, upd rk ct k, upd ad ct v, vl, bg, cm, sp, gd, rf, ct + 1, rd, sm, js, sn, wl), rfl, (by simp only [f_act, c_1, c_12, c_34, ↓reduceIte]), by rw [ht]; exact hP, va_K.moved hW.alike hK, hD⟩, hS.F ht⟩) hS.2.2 dX0_act_56
      · skip
        obtain ⟨sa, hsa⟩ := hE.st (RX0, 88, "there are 24 acts") (by decide)
        exact vx_throwS (own := RX0) (cls := "java/lang/IllegalStateException") (text := "there are 24 acts") (names := ["java/lang/RuntimeException", "java/lang/Exception"]) (ik := 86) (is := 88) (ic := 90) hx hb hl9 hown (by decide +kernel) (by decide +kernel) (hE.t m_281 rfl) (hE.t m_33 rfl) hsa (vx_hat (L := (vx_atS RX0 90 "java/lang/IllegalStateException" ["java/lang/RuntimeException", "java/lang/Exception"])) (B := [.castable "java/lang/IllegalStateException" "java/lang/IllegalStateException", .declares ⟨"java/lang/RuntimeException", "<init>", "(Ljava/lang/String;)V"⟩, .declares ⟨"java/lang/Exception", "<init>", "(Ljava/lang/String;)V"⟩, .declares ⟨"java/lang/Throwable", "<init>", "(Ljava/lang/String;)V"⟩]) (fun w hw => hts w (List.mem_filter.mpr ⟨at_X0_IllegalStateException w hw, (List.mem_filter.mp hw).2⟩)) ab_X0_IllegalStateException (vx_c (hE.t m_283 rfl) (vx_c (hE.t m_182 rfl) (vx_c (hE.t m_184 rfl) (vx_c (hE.t m_186 rfl) vx_n))))) gd_X0_IllegalStateException hE.zu hE.zn hS (by rw [hml]; exact hl.1) dX0_act_37 dX0_act_40 dX0_act_41 dX0_act_43 dX0_act_46 (fun x hx => (hne x hx).elim) (by decide) (by decide) (by decide) (by decide) hlocks (fun t hvm h1 h2 => ⟨(), trivial, ⟨Or.inr ⟨rfl, (by simp only [f_act, c_1, c_12, c_34, ↓reduceIte])⟩, (thr_B hP hK hD hS hvm h1 h2).1⟩, (thr_B hP hK hD hS hvm h1 h2).2⟩) hS.2.2 (by decide) (by decide)
    · skip
      obtain ⟨sa, hsa⟩ := hE.st (RX0, 82, "there is no such rank") (by decide)
      exact vx_throwS (own := RX0) (cls := "java/lang/IndexOutOfBoundsException") (text := "there is no such rank") (names := ["java/lang/RuntimeException", "java/lang/Exception"]) (ik := 80) (is := 82) (ic := 84) hx hb hl9 hown (by decide +kernel) (by decide +kernel) (hE.t m_178 rfl) (hE.t m_31 rfl) hsa (vx_hat (L := (vx_atS RX0 84 "java/lang/IndexOutOfBoundsException" ["java/lang/RuntimeException", "java/lang/Exception"])) (B := [.castable "java/lang/IndexOutOfBoundsException" "java/lang/IndexOutOfBoundsException", .declares ⟨"java/lang/RuntimeException", "<init>", "(Ljava/lang/String;)V"⟩, .declares ⟨"java/lang/Exception", "<init>", "(Ljava/lang/String;)V"⟩, .declares ⟨"java/lang/Throwable", "<init>", "(Ljava/lang/String;)V"⟩]) (fun w hw => hts w (List.mem_filter.mpr ⟨at_X0_IndexOutOfBoundsException w hw, (List.mem_filter.mp hw).2⟩)) ab_X0_IndexOutOfBoundsException (vx_c (hE.t m_180 rfl) (vx_c (hE.t m_182 rfl) (vx_c (hE.t m_184 rfl) (vx_c (hE.t m_186 rfl) vx_n))))) gd_X0_IndexOutOfBoundsException hE.zu hE.zn hS (by rw [hml]; exact hl.1) dX0_act_15 dX0_act_18 dX0_act_19 dX0_act_21 dX0_act_24 (fun x hx => (hne x hx).elim) (by decide) (by decide) (by decide) (by decide) hlocks (fun t hvm h1 h2 => ⟨(), trivial, ⟨Or.inl ⟨rfl, (by simp only [f_act, c_1, c_12, ↓reduceIte])⟩, (thr_B hP hK hD hS hvm h1 h2).1⟩, (thr_B hP hK hD hS hvm h1 h2).2⟩) hS.2.2 (by decide) (by decide)
set_option maxHeartbeats 4000000 in
set_option maxRecDepth 100000 in
/-- stop -/
theorem c_X0_stop (l : Launch) (hl9 : l.stackTraces = false) (dC : Nat → ClassId) (dI : Nat → Nat → Nat) (c0 : ClassId) (a : Nat → Nat) (sz : Nat) (n : Nat) (wk sd bt lt lo rk ad vl bg cm : Nat → Int32) (sp gd rf : Int32) (ct : Nat) (rd : Int32) (sm : Int64) (js sn wl : Int32) (k : Int32) (hn : n ≤ 40) : vx_Met l yX0_stop wsX0_stop ({ frames := 7, cells := 1, slots := 6, locals := 103 }) (va_Pc [.ref (a 0), .int k] (PX dC dI c0 a (n, wk, sd, bt, lt, lo, rk, ad, vl, bg, cm, sp, gd, rf, ct, rd, sm, js, sn, wl) sz)) (va_Qi (fun (r : Int32) (u : xS) => f_stop (n, wk, sd, bt, lt, lo, rk, ad, vl, bg, cm, sp, gd, rf, ct, rd, sm, js, sn, wl) k = (0, r.toInt64, u)) (BX dC dI c0 a (va_A (wX c0 a (n, wk, sd, bt, lt, lo, rk, ad, vl, bg, cm, sp, gd, rf, ct, rd, sm, js, sn, wl)) sz)) (va_A (wX c0 a (n, wk, sd, bt, lt, lo, rk, ad, vl, bg, cm, sp, gd, rf, ct, rd, sm, js, sn, wl)) sz)) (vx_X (fun _ : Unit => True) (fun (E : String) (_ : Unit) t => ((E = "java/lang/IndexOutOfBoundsException" ∧ f_stop (n, wk, sd, bt, lt, lo, rk, ad, vl, bg, cm, sp, gd, rf, ct, rd, sm, js, sn, wl) k = (1, 0, (n, wk, sd, bt, lt, lo, rk, ad, vl, bg, cm, sp, gd, rf, ct, rd, sm, js, sn, wl)))) ∧ BX dC dI c0 a (va_A (wX c0 a (n, wk, sd, bt, lt, lo, rk, ad, vl, bg, cm, sp, gd, rf, ct, rd, sm, js, sn, wl)) sz) (n, wk, sd, bt, lt, lo, rk, ad, vl, bg, cm, sp, gd, rf, ct, rd, sm, js, sn, wl) t) (va_A (wX c0 a (n, wk, sd, bt, lt, lo, rk, ad, vl, bg, cm, sp, gd, rf, ct, rd, sm, js, sn, wl)) sz)) 1 6 (va_A (wX c0 a (n, wk, sd, bt, lt, lo, rk, ad, vl, bg, cm, sp, gd, rf, ct, rd, sm, js, sn, wl)) sz) := by
  refine vx_ofW (cc := cX0_stop) (maxL := 3) (ret := (some .int)) (by decide) rfl ?_
  intro p e s m args below meth c s₁ B hml hne hv
  obtain ⟨rfl, hsz, hP, hK, hD0, hE⟩ := hv
  have hx := B.exec
  have hb := B.bytes
  have hr := B.returns
  have hown : s.vm.findClass RX0 = some m.cls := findClass_of_methodNamed B.named
  have hlocks := B.notSynchronized
  subst hsz
  have hD := hD0.self (sz := s.heap.size)
  generalize hAe : va_A (wX c0 a (n, wk, sd, bt, lt, lo, rk, ad, vl, bg, cm, sp, gd, rf, ct, rd, sm, js, sn, wl)) s.heap.size = A at hD hE ⊢
  have hts := hE.ts (args := ([.ref (a 0), .int k] : List Value).toArray)
  have hA : ∀ q : Nat, s.heap.size ≤ q → A q := fun q h => by rw [← hAe]; exact Or.inr h
  have hS : va_S A s.heap s.heap [] := va_S.rf
  have hP : va_P (dC, dI) vwCl (wX c0 a (n, wk, sd, bt, lt, lo, rk, ad, vl, bg, cm, sp, gd, rf, ct, rd, sm, js, sn, wl)) s.heap := hP
  have hl := lv_entry ([.ref (a 0), .int k]) (n := 3) (Nat.le_of_ble_eq_true rfl)
  rw [lg_entry_eq]
  generalize (lg_sl ([.ref (a 0), .int k]) ++ List.replicate (3 - (lg_sl ([.ref (a 0), .int k])).length) Slot.unset).toArray = ls at hl ⊢
  have hl : lv_has ls 3 [(0, .ref (a 0)), (1, .int k)] := hl
  refine lv_iload_n hx hb dX0_stop_0 rfl (lv_at hl 1 rfl) ?_
  refine lv_iconst (v := (-1)) hx hb dX0_stop_1 (by decide) ?_
  refine lv_icmp_eq (tgt := 10) hx hb dX0_stop_2 (by decide) (fun c_2 => ?_) (fun c_2 => ?_)
  · skip
    refine lv_aload_n hx hb dX0_stop_10 rfl (lv_at hl 0 rfl) ?_
    refine va_get (D := (dC, dI)) (ci := 0) (v := .int sp) (C := RX0) (T := TX0) (N := 6) hx hb hts inX0 hown hK hP 0 rfl rfl 3 (by decide) (hE.t m_146 rfl) (fun _ h9 => h9) rfl dX0_stop_11 ?_
    refine lv_istore_n (lv' := [(2, .int sp), (0, .ref (a 0)), (1, .int k)]) hx hb dX0_stop_14 rfl hl (by decide) rfl (fun ls hl => ?_)
    refine lv_aload_n hx hb dX0_stop_15 rfl (lv_at hl 1 rfl) ?_
    refine lv_iload_n hx hb dX0_stop_16 rfl (lv_at hl 2 rfl) ?_
    refine va_put (D := (dC, dI)) (ci := 0) (v := .int k) (ty := .int) (C := RX0) (T := TX0) (N := 6) hx hb hts inX0 tyX0 tyX0_ok nmX0 hown hK hP hD hS 0 rfl rfl 3 (by decide) (hE.t m_146 rfl) (fun _ h9 => h9) rfl (by decide +kernel) rfl rfl (Nat.le_of_ble_eq_true rfl) dX0_stop_17 (fun H locs hP hD hS => ?_)
    have hP : va_P (dC, dI) vwCl (wX c0 a (n, wk, sd, bt, lt, lo, rk, ad, vl, bg, cm, k, gd, rf, ct, rd, sm, js, sn, wl)) H := hP
    have hD : va_D A (wX c0 a (n, wk, sd, bt, lt, lo, rk, ad, vl, bg, cm, k, gd, rf, ct, rd, sm, js, sn, wl)) := hD
    refine lv_iload_n hx hb dX0_stop_20 rfl (lv_at hl 0 rfl) ?_
    refine vx_ret ?_
    refine W.widen (k := 1) (n := 6) (by omega) (by omega) ?_
    exact W.iret (v := sp) hx hb hr (fun t ht hW => ⟨⟨sp, (n, wk, sd, bt, lt, lo, rk, ad, vl, bg, cm, k, gd, rf, ct, rd, sm, js, sn, wl), rfl, (by simp only [f_stop, eq_true c_2, ↓reduceIte]), by rw [ht]; exact hP, va_K.moved hW.alike hK, hD⟩, hS.F ht⟩) hS.2.2 dX0_stop_21
  · skip
    refine lv_aload_n hx hb dX0_stop_5 rfl (lv_at hl 0 rfl) ?_
    refine lv_iload_n hx hb dX0_stop_6 rfl (lv_at hl 1 rfl) ?_
    have hFc := fre hD hS hA
    refine vx_callv (vx_runV (As := [.int k]) (rest := []) ⟨hx, hb, hml, hown, hts⟩ (c_X0_needShare l hl9 dC dI c0 a _ n wk sd bt lt lo rk ad vl bg cm sp gd rf ct rd sm js sn wl k) (cwV 1 hts gX0_stop_X0_needShare rfl rfl rfl (by decide +kernel) ⟨(Nat.le_of_ble_eq_true rfl), (Nat.le_of_ble_eq_true rfl)⟩) ⟨PX_blind, va_recv hK hP (ci := 0) (q0 := 0) rfl rfl, PX_give hP hK hD hE hS hFc⟩ rfl rfl hl.1 rfl (lv_room (Nat.le_of_ble_eq_true rfl)) dX0_stop_7 ⟨by decide, by decide⟩) hS (fun q _ h => hFc q h) hFc (fun q _ h => hFc q h) (fun E ce q9 u t H1 locs ht hvm hw hB hz1 hk1 hS hce hcv hcl => ?_) (fun u t H1 locs ht hvm hw hB hz1 hk1 hS => ?_)
    · skip
      obtain ⟨hEE, hB⟩ := hB
      obtain ⟨hP, hD⟩ := PX_take ht hFc hB
      exact vx_out (E := E) (fun x hx => (hne x hx).elim) hlocks hce hcv hcl (fun t ht ha => ⟨(), trivial, ⟨⟨hEE.1, (by rcases hEE.2 with h9 | h9 <;> simp only [f_stop, c_2, h9, ↓reduceIte, ite_self])⟩, by rw [ht]; exact hP, va_K.moved ha hK, hD⟩, hS.F ht⟩) hS.2.2 (by decide) (by decide)
    · skip
      obtain ⟨⟨hq1, hq2⟩, rfl⟩ := hw
      obtain ⟨hP, hD⟩ := PX_take ht hFc hB
      generalize H1 = H at hP hS ⊢
      have hP : va_P (dC, dI) vwCl (wX c0 a (n, wk, sd, bt, lt, lo, rk, ad, vl, bg, cm, sp, gd, rf, ct, rd, sm, js, sn, wl)) H := hP
      have hD : va_D A (wX c0 a (n, wk, sd, bt, lt, lo, rk, ad, vl, bg, cm, sp, gd, rf, ct, rd, sm, js, sn, wl)) := hD
      have hk : vp_in k n := in_of hq1 hq2 (by omega)
      refine lv_aload_n hx hb dX0_stop_10 rfl (lv_at hl 0 rfl) ?_
      refine va_get (D := (dC, dI)) (ci := 0) (v := .int sp) (C := RX0) (T := TX0) (N := 6) hx hb hts inX0 hown hK hP 0 rfl rfl 3 (by decide) (hE.t m_146 rfl) (fun _ h9 => h9) rfl dX0_stop_11 ?_
      refine lv_istore_n (lv' := [(2, .int sp), (0, .ref (a 0)), (1, .int k)]) hx hb dX0_stop_14 rfl hl (by decide) rfl (fun ls hl => ?_)
      refine lv_aload_n hx hb dX0_stop_15 rfl (lv_at hl 1 rfl) ?_
      refine lv_iload_n hx hb dX0_stop_16 rfl (lv_at hl 2 rfl) ?_
      refine va_put (D := (dC, dI)) (ci := 0) (v := .int k) (ty := .int) (C := RX0) (T := TX0) (N := 6) hx hb hts inX0 tyX0 tyX0_ok nmX0 hown hK hP hD hS 0 rfl rfl 3 (by decide) (hE.t m_146 rfl) (fun _ h9 => h9) rfl (by decide +kernel) rfl rfl (Nat.le_of_ble_eq_true rfl) dX0_stop_17 (fun H locs hP hD hS => ?_)
      have hP : va_P (dC, dI) vwCl (wX c0 a (n, wk, sd, bt, lt, lo, rk, ad, vl, bg, cm, k, gd, rf, ct, rd, sm, js, sn, wl)) H := hP
      have hD : va_D A (wX c0 a (n, wk, sd, bt, lt, lo, rk, ad, vl, bg, cm, k, gd, rf, ct, rd, sm, js, sn, wl)) := hD
      refine lv_iload_n hx hb dX0_stop_20 rfl (lv_at hl 0 rfl) ?_
      refine vx_ret ?_
      exact W.iret (v := sp) hx hb hr (fun t ht hW => ⟨⟨sp, (n, wk, sd, bt, lt, lo, rk, ad, vl, bg, cm, k, gd, rf, ct, rd, sm, js, sn, wl), rfl, (by simp only [f_stop, c_2, hq1, hq2, ↓reduceIte]), by rw [ht]; exact hP, va_K.moved hW.alike hK, hD⟩, hS.F ht⟩) hS.2.2 dX0_stop_21
set_option maxHeartbeats 4000000 in
set_option maxRecDepth 100000 in
/-- run -/
theorem c_X0_run (l : Launch) (hl9 : l.stackTraces = false) (dC : Nat → ClassId) (dI : Nat → Nat → Nat) (c0 : ClassId) (a : Nat → Nat) (sz : Nat) (n : Nat) (wk sd bt lt lo rk ad vl bg cm : Nat → Int32) (sp gd rf : Int32) (ct : Nat) (rd : Int32) (sm : Int64) (js sn wl : Int32) (w : Int32) (y : Int32) (hn : n ≤ 40) (hct : ct ≤ 24) : vx_Met l yX0_run wsX0_run ({ frames := 7, cells := 1, slots := 6, locals := 103 }) (va_Pc [.ref (a 0), .int w, .int y] (PX dC dI c0 a (n, wk, sd, bt, lt, lo, rk, ad, vl, bg, cm, sp, gd, rf, ct, rd, sm, js, sn, wl) sz)) (va_Qi (fun (r : Int32) (u : xS) => f_run (n, wk, sd, bt, lt, lo, rk, ad, vl, bg, cm, sp, gd, rf, ct, rd, sm, js, sn, wl) w y = (0, r.toInt64, u)) (BX dC dI c0 a (va_A (wX c0 a (n, wk, sd, bt, lt, lo, rk, ad, vl, bg, cm, sp, gd, rf, ct, rd, sm, js, sn, wl)) sz)) (va_A (wX c0 a (n, wk, sd, bt, lt, lo, rk, ad, vl, bg, cm, sp, gd, rf, ct, rd, sm, js, sn, wl)) sz)) (vx_X (fun _ : Unit => True) (fun (E : String) (_ : Unit) t => ((E = "java/lang/IllegalArgumentException" ∧ f_run (n, wk, sd, bt, lt, lo, rk, ad, vl, bg, cm, sp, gd, rf, ct, rd, sm, js, sn, wl) w y = (1, 0, (n, wk, sd, bt, lt, lo, rk, ad, vl, bg, cm, sp, gd, rf, ct, rd, sm, js, sn, wl)))) ∧ BX dC dI c0 a (va_A (wX c0 a (n, wk, sd, bt, lt, lo, rk, ad, vl, bg, cm, sp, gd, rf, ct, rd, sm, js, sn, wl)) sz) (n, wk, sd, bt, lt, lo, rk, ad, vl, bg, cm, sp, gd, rf, ct, rd, sm, js, sn, wl) t) (va_A (wX c0 a (n, wk, sd, bt, lt, lo, rk, ad, vl, bg, cm, sp, gd, rf, ct, rd, sm, js, sn, wl)) sz)) 1 6 (va_A (wX c0 a (n, wk, sd, bt, lt, lo, rk, ad, vl, bg, cm, sp, gd, rf, ct, rd, sm, js, sn, wl)) sz) := by
  refine vx_ofW (cc := cX0_run) (maxL := 4) (ret := (some .int)) (by decide) rfl ?_
  intro p e s m args below meth c s₁ B hml hne hv
  obtain ⟨rfl, hsz, hP, hK, hD0, hE⟩ := hv
  have hx := B.exec
  have hb := B.bytes
  have hr := B.returns
  have hown : s.vm.findClass RX0 = some m.cls := findClass_of_methodNamed B.named
  have hlocks := B.notSynchronized
  subst hsz
  have hD := hD0.self (sz := s.heap.size)
  generalize hAe : va_A (wX c0 a (n, wk, sd, bt, lt, lo, rk, ad, vl, bg, cm, sp, gd, rf, ct, rd, sm, js, sn, wl)) s.heap.size = A at hD hE ⊢
  have hts := hE.ts (args := ([.ref (a 0), .int w, .int y] : List Value).toArray)
  have hA : ∀ q : Nat, s.heap.size ≤ q → A q := fun q h => by rw [← hAe]; exact Or.inr h
  have hS : va_S A s.heap s.heap [] := va_S.rf
  have hP : va_P (dC, dI) vwCl (wX c0 a (n, wk, sd, bt, lt, lo, rk, ad, vl, bg, cm, sp, gd, rf, ct, rd, sm, js, sn, wl)) s.heap := hP
  have hl := lv_entry ([.ref (a 0), .int w, .int y]) (n := 4) (Nat.le_of_ble_eq_true rfl)
  rw [lg_entry_eq]
  generalize (lg_sl ([.ref (a 0), .int w, .int y]) ++ List.replicate (4 - (lg_sl ([.ref (a 0), .int w, .int y])).length) Slot.unset).toArray = ls at hl ⊢
  have hl : lv_has ls 4 [(0, .ref (a 0)), (1, .int w), (2, .int y)] := hl
  refine lv_iload_n hx hb dX0_run_0 rfl (lv_at hl 1 rfl) ?_
  refine lv_iconst (v := 1) hx hb dX0_run_1 (by decide) ?_
  refine lv_icmp_lt (tgt := 11) hx hb dX0_run_2 (by decide) (fun c_2 => ?_) (fun c_2 => ?_)
  · skip
    obtain ⟨sa, hsa⟩ := hE.st (RX0, 94, "workers is not 1 .. 6") (by decide)
    exact vx_throwS (own := RX0) (cls := "java/lang/IllegalArgumentException") (text := "workers is not 1 .. 6") (names := ["java/lang/RuntimeException", "java/lang/Exception"]) (ik := 48) (is := 94) (ic := 52) hx hb hl9 hown (by decide +kernel) (by decide +kernel) (hE.t m_246 rfl) (hE.t m_32 rfl) hsa (vx_hat (L := (vx_atS RX0 52 "java/lang/IllegalArgumentException" ["java/lang/RuntimeException", "java/lang/Exception"])) (B := [.castable "java/lang/IllegalArgumentException" "java/lang/IllegalArgumentException", .declares ⟨"java/lang/RuntimeException", "<init>", "(Ljava/lang/String;)V"⟩, .declares ⟨"java/lang/Exception", "<init>", "(Ljava/lang/String;)V"⟩, .declares ⟨"java/lang/Throwable", "<init>", "(Ljava/lang/String;)V"⟩]) (fun w hw => hts w (List.mem_filter.mpr ⟨at_X0_IllegalArgumentException w hw, (List.mem_filter.mp hw).2⟩)) ab_X0_IllegalArgumentException (vx_c (hE.t m_248 rfl) (vx_c (hE.t m_182 rfl) (vx_c (hE.t m_184 rfl) (vx_c (hE.t m_186 rfl) vx_n))))) gd_X0_IllegalArgumentException hE.zu hE.zn hS (by rw [hml]; exact hl.1) dX0_run_11 dX0_run_14 dX0_run_15 dX0_run_17 dX0_run_20 (fun x hx => (hne x hx).elim) (by decide) (by decide) (by decide) (by decide) hlocks (fun t hvm h1 h2 => ⟨(), trivial, ⟨⟨rfl, (by simp only [f_run, c_2, ↓reduceIte])⟩, (thr_B hP hK hD hS hvm h1 h2).1⟩, (thr_B hP hK hD hS hvm h1 h2).2⟩) hS.2.2 (by decide) (by decide)
  · skip
    refine lv_iload_n hx hb dX0_run_5 rfl (lv_at hl 1 rfl) ?_
    refine lv_bipush (v := 6) hx hb dX0_run_6 (by decide) ?_
    refine lv_icmp_le (tgt := 21) hx hb dX0_run_8 (by decide) (fun c_8 => ?_) (fun c_8 => ?_)
    · skip
      refine lv_iload_n hx hb dX0_run_21 rfl (lv_at hl 1 rfl) ?_
      refine lv_aload_n hx hb dX0_run_22 rfl (lv_at hl 0 rfl) ?_
      refine va_get (D := (dC, dI)) (ci := 0) (v := .ref (a 1)) (C := RX0) (T := TX0) (N := 6) hx hb hts inX0 hown hK hP 0 rfl rfl 0 (by decide) (hE.t m_143 rfl) (fun _ h9 => h9) rfl dX0_run_23 ?_
      have hFc := fre hD hS hA
      refine va_calli (va_runVN (As := []) (rest := [.int w]) ⟨hx, hb, hml, hown, hts⟩ (c_X1_allLosses l dC dI c0 a _ n wk sd bt lt lo rk ad vl bg cm sp gd rf ct rd sm js sn wl hn) ⟨va_cnB (host := "DrawShares") 0 hts gX0_run_X1_allLosses rfl rfl rfl (hE.t0 m_316 rfl) (hE.t m_23 rfl) (by decide +kernel) ⟨(Nat.le_of_ble_eq_true rfl), (Nat.le_of_ble_eq_true rfl)⟩, hE.t m_318 rfl, hE.t m_3 rfl⟩ ⟨PX_blind, va_recv hK hP (ci := 1) (q0 := 1) rfl rfl, PX_give hP hK hD hE hS hFc⟩ rfl rfl hl.1 rfl (lv_room (Nat.le_of_ble_eq_true rfl)) dX0_run_26 ⟨by decide, by decide⟩) hS (fun q _ h => hFc q h) hFc (fun r_26 u t H1 locs ht hvm hw hB hz1 hk1 hS => ?_)
      obtain ⟨rfl, rfl⟩ := hw
      obtain ⟨hP, hD⟩ := PX_take ht hFc hB
      generalize H1 = H at hP hS ⊢
      have hP : va_P (dC, dI) vwCl (wX c0 a (n, wk, sd, bt, lt, lo, rk, ad, vl, bg, cm, sp, gd, rf, ct, rd, sm, js, sn, wl)) H := hP
      have hD : va_D A (wX c0 a (n, wk, sd, bt, lt, lo, rk, ad, vl, bg, cm, sp, gd, rf, ct, rd, sm, js, sn, wl)) := hD
      refine lv_isub hx hb dX0_run_29 ?_
      refine lv_istore_n (lv' := [(3, .int (w - (sumL lo n))), (0, .ref (a 0)), (1, .int w), (2, .int y)]) hx hb dX0_run_30 rfl hl (by decide) rfl (fun ls hl => ?_)
      refine lv_iload_n hx hb dX0_run_31 rfl (lv_at hl 0 rfl) ?_
      refine lv_iconst (v := 1) hx hb dX0_run_32 (by decide) ?_
      refine lv_icmp_ge (tgt := 49) hx hb dX0_run_33 (by decide) (fun c_33 => ?_) (fun c_33 => ?_)
      · skip
        refine lv_aload_n hx hb dX0_run_49 rfl (lv_at hl 1 rfl) ?_
        refine lv_dup hx hb dX0_run_50 rfl ?_
        refine va_get (D := (dC, dI)) (ci := 0) (v := .int gd) (C := RX0) (T := TX0) (N := 6) hx hb hts inX0 hown hK hP 0 rfl rfl 4 (by decide) (hE.t m_147 rfl) (fun _ h9 => h9) rfl dX0_run_51 ?_
        refine lv_iconst (v := 1) hx hb dX0_run_54 (by decide) ?_
        refine lv_iadd hx hb dX0_run_55 ?_
        refine va_put (D := (dC, dI)) (ci := 0) (v := .int (gd + 1)) (ty := .int) (C := RX0) (T := TX0) (N := 6) hx hb hts inX0 tyX0 tyX0_ok nmX0 hown hK hP hD hS 0 rfl rfl 4 (by decide) (hE.t m_147 rfl) (fun _ h9 => h9) rfl (by decide +kernel) rfl rfl (Nat.le_of_ble_eq_true rfl) dX0_run_56 (fun H locs hP hD hS => ?_)
        have hP : va_P (dC, dI) vwCl (wX c0 a (n, wk, sd, bt, lt, lo, rk, ad, vl, bg, cm, sp, gd + 1, rf, ct, rd, sm, js, sn, wl)) H := hP
        have hD : va_D A (wX c0 a (n, wk, sd, bt, lt, lo, rk, ad, vl, bg, cm, sp, gd + 1, rf, ct, rd, sm, js, sn, wl)) := hD
        refine lv_aload_n hx hb dX0_run_59 rfl (lv_at hl 1 rfl) ?_
        refine va_get (D := (dC, dI)) (ci := 0) (v := .ref (a 3)) (C := RX0) (T := TX0) (N := 6) hx hb hts inX0 hown hK hP 0 rfl rfl 2 (by decide) (hE.t m_145 rfl) (fun _ h9 => h9) rfl dX0_run_60 ?_
        refine lv_iload_n hx hb dX0_run_63 rfl (lv_at hl 0 rfl) ?_
        refine va_putN (D := (dC, dI)) (ci := 3) (v := .int (w - (sumL lo n))) (ty := .int) (C := RX3) (T := TX3) (N := 8) hx hb hts inX3 tyX3 tyX3_ok nmX3 hown hK hP hD hS 3 rfl rfl 7 (by decide) (hE.t m_125 rfl) (fun _ h9 => h9) rfl (by decide +kernel) rfl rfl (Nat.le_of_ble_eq_true rfl) dX0_run_64 (fun H locs hP hD hS => ?_)
        have hP : va_P (dC, dI) vwCl (wX c0 a (n, wk, sd, bt, lt, lo, rk, ad, vl, bg, cm, sp, gd + 1, rf, ct, rd, sm, js, sn, w - (sumL lo n))) H := hP
        have hD : va_D A (wX c0 a (n, wk, sd, bt, lt, lo, rk, ad, vl, bg, cm, sp, gd + 1, rf, ct, rd, sm, js, sn, w - (sumL lo n))) := hD
        refine lv_aload_n hx hb dX0_run_67 rfl (lv_at hl 1 rfl) ?_
        refine va_get (D := (dC, dI)) (ci := 0) (v := .ref (a 3)) (C := RX0) (T := TX0) (N := 6) hx hb hts inX0 hown hK hP 0 rfl rfl 2 (by decide) (hE.t m_145 rfl) (fun _ h9 => h9) rfl dX0_run_68 ?_
        refine lv_aload_n hx hb dX0_run_71 rfl (lv_at hl 1 rfl) ?_
        refine va_get (D := (dC, dI)) (ci := 0) (v := .ref (a 1)) (C := RX0) (T := TX0) (N := 6) hx hb hts inX0 hown hK hP 0 rfl rfl 0 (by decide) (hE.t m_143 rfl) (fun _ h9 => h9) rfl dX0_run_72 ?_
        have hFc := fre hD hS hA
        refine va_callv (va_runVN (As := [.ref (a 1)]) (rest := []) ⟨hx, hb, hml, hown, hts⟩ (c_X3_doAll l dC dI c0 a _ n wk sd bt lt lo rk ad vl bg cm sp (gd + 1) rf ct rd sm js sn (w - (sumL lo n)) hn) ⟨va_cnB (host := "DrawShares") 1 hts gX0_run_X3_doAll rfl rfl rfl (hE.t0 m_320 rfl) (hE.t m_26 rfl) (by decide +kernel) ⟨(Nat.le_of_ble_eq_true rfl), (Nat.le_of_ble_eq_true rfl)⟩, hE.t m_322 rfl, hE.t m_4 rfl⟩ ⟨PX_blind, va_recv hK hP (ci := 3) (q0 := 3) rfl rfl, PX_give hP hK hD hE hS hFc⟩ rfl rfl hl.1 rfl (lv_room (Nat.le_of_ble_eq_true rfl)) dX0_run_75 ⟨by decide, by decide⟩) hS (fun q _ h => hFc q h) hFc (fun u t H1 locs ht hvm hw hB hz1 hk1 hS => ?_)
        obtain rfl := hw
        obtain ⟨hP, hD⟩ := PX_take ht hFc hB
        generalize H1 = H at hP hS ⊢
        have hP : va_P (dC, dI) vwCl (wX c0 a (n, wk, sd, bt, lt, lo, rk, ad, fil (fun j => lastV wk sd (nI j)) vl n, fil (fun j => lo j + 1) bg n, cm, sp, gd + 1, rf, ct, 1, sm, js, sumL (fun j => swl wk lt lo (nI j)) n, w - (sumL lo n))) H := hP
        have hD : va_D A (wX c0 a (n, wk, sd, bt, lt, lo, rk, ad, fil (fun j => lastV wk sd (nI j)) vl n, fil (fun j => lo j + 1) bg n, cm, sp, gd + 1, rf, ct, 1, sm, js, sumL (fun j => swl wk lt lo (nI j)) n, w - (sumL lo n))) := hD
        refine lv_aload_n hx hb dX0_run_78 rfl (lv_at hl 1 rfl) ?_
        refine va_get (D := (dC, dI)) (ci := 0) (v := .ref (a 3)) (C := RX0) (T := TX0) (N := 6) hx hb hts inX0 hown hK hP 0 rfl rfl 2 (by decide) (hE.t m_145 rfl) (fun _ h9 => h9) rfl dX0_run_79 ?_
        refine lv_aload_n hx hb dX0_run_82 rfl (lv_at hl 1 rfl) ?_
        refine va_get (D := (dC, dI)) (ci := 0) (v := .ref (a 1)) (C := RX0) (T := TX0) (N := 6) hx hb hts inX0 hown hK hP 0 rfl rfl 0 (by decide) (hE.t m_143 rfl) (fun _ h9 => h9) rfl dX0_run_83 ?_
        refine lv_aload_n hx hb dX0_run_86 rfl (lv_at hl 1 rfl) ?_
        refine va_get (D := (dC, dI)) (ci := 0) (v := .ref (a 2)) (C := RX0) (T := TX0) (N := 6) hx hb hts inX0 hown hK hP 0 rfl rfl 1 (by decide) (hE.t m_144 rfl) (fun _ h9 => h9) rfl dX0_run_87 ?_
        refine lv_aload_n hx hb dX0_run_90 rfl (lv_at hl 1 rfl) ?_
        refine va_get (D := (dC, dI)) (ci := 0) (v := .int sp) (C := RX0) (T := TX0) (N := 6) hx hb hts inX0 hown hK hP 0 rfl rfl 3 (by decide) (hE.t m_146 rfl) (fun _ h9 => h9) rfl dX0_run_91 ?_
        have hFc := fre hD hS hA
        refine va_calli (va_runVN (As := [.ref (a 1), .ref (a 2), .int sp]) (rest := []) ⟨hx, hb, hml, hown, hts⟩ (c_X3_joinAll l dC dI c0 a _ n wk sd bt lt lo rk ad (fil (fun j => lastV wk sd (nI j)) vl n) (fil (fun j => lo j + 1) bg n) cm sp (gd + 1) rf ct 1 sm js (sumL (fun j => swl wk lt lo (nI j)) n) (w - (sumL lo n)) sp hn hct) ⟨va_cnB (host := "DrawShares") 3 hts gX0_run_X3_joinAll rfl rfl rfl (hE.t0 m_340 rfl) (hE.t m_26 rfl) (by decide +kernel) ⟨(Nat.le_of_ble_eq_true rfl), (Nat.le_of_ble_eq_true rfl)⟩, hE.t m_342 rfl, hE.t m_8 rfl⟩ ⟨PX_blind, va_recv hK hP (ci := 3) (q0 := 3) rfl rfl, PX_give hP hK hD hE hS hFc⟩ rfl rfl hl.1 rfl (lv_room (Nat.le_of_ble_eq_true rfl)) dX0_run_94 ⟨by decide, by decide⟩) hS (fun q _ h => hFc q h) hFc (fun r_94 u t H1 locs ht hvm hw hB hz1 hk1 hS => ?_)
        obtain ⟨s9, c9, j9, hJ9, rfl⟩ := hw
        obtain ⟨hP, hD⟩ := PX_take ht hFc hB
        generalize H1 = H at hP hS ⊢
        have hP : va_P (dC, dI) vwCl (wX c0 a (n, wk, sd, bt, lt, lo, rk, ad, fil (fun j => lastV wk sd (nI j)) vl n, fil (fun j => lo j + 1) bg n, c9, sp, gd + 1, rf, ct, 1, s9, nI j9, sumL (fun j => swl wk lt lo (nI j)) n, w - (sumL lo n))) H := hP
        have hD : va_D A (wX c0 a (n, wk, sd, bt, lt, lo, rk, ad, fil (fun j => lastV wk sd (nI j)) vl n, fil (fun j => lo j + 1) bg n, c9, sp, gd + 1, rf, ct, 1, s9, nI j9, sumL (fun j => swl wk lt lo (nI j)) n, w - (sumL lo n))) := hD
        refine vx_ret ?_
        refine W.widen (k := 1) (n := 6) (by omega) (by omega) ?_
        exact W.iret (v := r_94) hx hb hr (fun t ht hW => ⟨⟨r_94, (n, wk, sd, bt, lt, lo, rk, ad, fil (fun j => lastV wk sd (nI j)) vl n, fil (fun j => lo j + 1) bg n, c9, sp, gd + 1, rf, ct, 1, s9, nI j9, sumL (fun j => swl wk lt lo (nI j)) n, w - (sumL lo n)), rfl, (by simp only [f_run, c_2, c_8, c_33, ↓reduceIte, hJ9]), by rw [ht]; exact hP, va_K.moved hW.alike hK, hD⟩, hS.F ht⟩) hS.2.2 dX0_run_97
      · skip
        refine lv_aload_n hx hb dX0_run_36 rfl (lv_at hl 1 rfl) ?_
        refine lv_dup hx hb dX0_run_37 rfl ?_
        refine va_get (D := (dC, dI)) (ci := 0) (v := .int rf) (C := RX0) (T := TX0) (N := 6) hx hb hts inX0 hown hK hP 0 rfl rfl 5 (by decide) (hE.t m_148 rfl) (fun _ h9 => h9) rfl dX0_run_38 ?_
        refine lv_iconst (v := 1) hx hb dX0_run_41 (by decide) ?_
        refine lv_iadd hx hb dX0_run_42 ?_
        refine va_put (D := (dC, dI)) (ci := 0) (v := .int (rf + 1)) (ty := .int) (C := RX0) (T := TX0) (N := 6) hx hb hts inX0 tyX0 tyX0_ok nmX0 hown hK hP hD hS 0 rfl rfl 5 (by decide) (hE.t m_148 rfl) (fun _ h9 => h9) rfl (by decide +kernel) rfl rfl (Nat.le_of_ble_eq_true rfl) dX0_run_43 (fun H locs hP hD hS => ?_)
        have hP : va_P (dC, dI) vwCl (wX c0 a (n, wk, sd, bt, lt, lo, rk, ad, vl, bg, cm, sp, gd, rf + 1, ct, rd, sm, js, sn, wl)) H := hP
        have hD : va_D A (wX c0 a (n, wk, sd, bt, lt, lo, rk, ad, vl, bg, cm, sp, gd, rf + 1, ct, rd, sm, js, sn, wl)) := hD
        refine lv_bipush (v := (-2)) hx hb dX0_run_46 (by decide) ?_
        refine vx_ret ?_
        refine W.widen (k := 1) (n := 6) (by omega) (by omega) ?_
        exact W.iret (v := (-2)) hx hb hr (fun t ht hW => ⟨⟨(-2), (n, wk, sd, bt, lt, lo, rk, ad, vl, bg, cm, sp, gd, rf + 1, ct, rd, sm, js, sn, wl), rfl, (by simp only [f_run, c_2, c_8, c_33, ↓reduceIte]), by rw [ht]; exact hP, va_K.moved hW.alike hK, hD⟩, hS.F ht⟩) hS.2.2 dX0_run_48
    · skip
      obtain ⟨sa, hsa⟩ := hE.st (RX0, 94, "workers is not 1 .. 6") (by decide)
      exact vx_throwS (own := RX0) (cls := "java/lang/IllegalArgumentException") (text := "workers is not 1 .. 6") (names := ["java/lang/RuntimeException", "java/lang/Exception"]) (ik := 48) (is := 94) (ic := 52) hx hb hl9 hown (by decide +kernel) (by decide +kernel) (hE.t m_246 rfl) (hE.t m_32 rfl) hsa (vx_hat (L := (vx_atS RX0 52 "java/lang/IllegalArgumentException" ["java/lang/RuntimeException", "java/lang/Exception"])) (B := [.castable "java/lang/IllegalArgumentException" "java/lang/IllegalArgumentException", .declares ⟨"java/lang/RuntimeException", "<init>", "(Ljava/lang/String;)V"⟩, .declares ⟨"java/lang/Exception", "<init>", "(Ljava/lang/String;)V"⟩, .declares ⟨"java/lang/Throwable", "<init>", "(Ljava/lang/String;)V"⟩]) (fun w hw => hts w (List.mem_filter.mpr ⟨at_X0_IllegalArgumentException w hw, (List.mem_filter.mp hw).2⟩)) ab_X0_IllegalArgumentException (vx_c (hE.t m_248 rfl) (vx_c (hE.t m_182 rfl) (vx_c (hE.t m_184 rfl) (vx_c (hE.t m_186 rfl) vx_n))))) gd_X0_IllegalArgumentException hE.zu hE.zn hS (by rw [hml]; exact hl.1) dX0_run_11 dX0_run_14 dX0_run_15 dX0_run_17 dX0_run_20 (fun x hx => (hne x hx).elim) (by decide) (by decide) (by decide) (by decide) hlocks (fun t hvm h1 h2 => ⟨(), trivial, ⟨⟨rfl, (by simp only [f_run, c_2, c_8, ↓reduceIte])⟩, (thr_B hP hK hD hS hvm h1 h2).1⟩, (thr_B hP hK hD hS hvm h1 h2).2⟩) hS.2.2 (by decide) (by decide)
set_option maxHeartbeats 4000000 in
set_option maxRecDepth 100000 in
/-- joined -/
theorem c_X0_joined (l : Launch) (hl9 : l.stackTraces = false) (dC : Nat → ClassId) (dI : Nat → Nat → Nat) (c0 : ClassId) (a : Nat → Nat) (sz : Nat) (n : Nat) (wk sd bt lt lo rk ad vl bg cm : Nat → Int32) (sp gd rf : Int32) (ct : Nat) (rd : Int32) (sm : Int64) (js sn wl : Int32) (hn : n ≤ 40) : vx_Met l yX0_joined wsX0_joined ({ frames := 7, cells := 1, slots := 6, locals := 103 }) (va_Pc [.ref (a 0)] (PX dC dI c0 a (n, wk, sd, bt, lt, lo, rk, ad, vl, bg, cm, sp, gd, rf, ct, rd, sm, js, sn, wl) sz)) (va_Ql (fun (r : Int64) (u : xS) => f_joined (n, wk, sd, bt, lt, lo, rk, ad, vl, bg, cm, sp, gd, rf, ct, rd, sm, js, sn, wl) = (0, r, u)) (BX dC dI c0 a (va_A (wX c0 a (n, wk, sd, bt, lt, lo, rk, ad, vl, bg, cm, sp, gd, rf, ct, rd, sm, js, sn, wl)) sz)) (va_A (wX c0 a (n, wk, sd, bt, lt, lo, rk, ad, vl, bg, cm, sp, gd, rf, ct, rd, sm, js, sn, wl)) sz)) (vx_X (fun _ : Unit => True) (fun (E : String) (_ : Unit) t => ((E = "java/lang/IllegalStateException" ∧ f_joined (n, wk, sd, bt, lt, lo, rk, ad, vl, bg, cm, sp, gd, rf, ct, rd, sm, js, sn, wl) = (1, 0, (n, wk, sd, bt, lt, lo, rk, ad, vl, bg, cm, sp, gd, rf, ct, rd, sm, js, sn, wl)))) ∧ BX dC dI c0 a (va_A (wX c0 a (n, wk, sd, bt, lt, lo, rk, ad, vl, bg, cm, sp, gd, rf, ct, rd, sm, js, sn, wl)) sz) (n, wk, sd, bt, lt, lo, rk, ad, vl, bg, cm, sp, gd, rf, ct, rd, sm, js, sn, wl) t) (va_A (wX c0 a (n, wk, sd, bt, lt, lo, rk, ad, vl, bg, cm, sp, gd, rf, ct, rd, sm, js, sn, wl)) sz)) 1 6 (va_A (wX c0 a (n, wk, sd, bt, lt, lo, rk, ad, vl, bg, cm, sp, gd, rf, ct, rd, sm, js, sn, wl)) sz) := by
  refine vx_ofW (cc := cX0_joined) (maxL := 1) (ret := (some .long)) (by decide) rfl ?_
  intro p e s m args below meth c s₁ B hml hne hv
  obtain ⟨rfl, hsz, hP, hK, hD0, hE⟩ := hv
  have hx := B.exec
  have hb := B.bytes
  have hr := B.returns
  have hown : s.vm.findClass RX0 = some m.cls := findClass_of_methodNamed B.named
  have hlocks := B.notSynchronized
  subst hsz
  have hD := hD0.self (sz := s.heap.size)
  generalize hAe : va_A (wX c0 a (n, wk, sd, bt, lt, lo, rk, ad, vl, bg, cm, sp, gd, rf, ct, rd, sm, js, sn, wl)) s.heap.size = A at hD hE ⊢
  have hts := hE.ts (args := ([.ref (a 0)] : List Value).toArray)
  have hA : ∀ q : Nat, s.heap.size ≤ q → A q := fun q h => by rw [← hAe]; exact Or.inr h
  have hS : va_S A s.heap s.heap [] := va_S.rf
  have hP : va_P (dC, dI) vwCl (wX c0 a (n, wk, sd, bt, lt, lo, rk, ad, vl, bg, cm, sp, gd, rf, ct, rd, sm, js, sn, wl)) s.heap := hP
  have hl := lv_entry ([.ref (a 0)]) (n := 1) (Nat.le_of_ble_eq_true rfl)
  rw [lg_entry_eq]
  generalize (lg_sl ([.ref (a 0)]) ++ List.replicate (1 - (lg_sl ([.ref (a 0)])).length) Slot.unset).toArray = ls at hl ⊢
  have hl : lv_has ls 1 [(0, .ref (a 0))] := hl
  refine lv_aload_n hx hb dX0_joined_0 rfl (lv_at hl 0 rfl) ?_
  have hFc := fre hD hS hA
  refine vx_callv (vx_runV (As := []) (rest := []) ⟨hx, hb, hml, hown, hts⟩ (c_X0_needRun l hl9 dC dI c0 a _ n wk sd bt lt lo rk ad vl bg cm sp gd rf ct rd sm js sn wl ) (cwV 0 hts gX0_joined_X0_needRun rfl rfl rfl (by decide +kernel) ⟨(Nat.le_of_ble_eq_true rfl), (Nat.le_of_ble_eq_true rfl)⟩) ⟨PX_blind, va_recv hK hP (ci := 0) (q0 := 0) rfl rfl, PX_give hP hK hD hE hS hFc⟩ rfl rfl hl.1 rfl (lv_room (Nat.le_of_ble_eq_true rfl)) dX0_joined_1 ⟨by decide, by decide⟩) hS (fun q _ h => hFc q h) hFc (fun q _ h => hFc q h) (fun E ce q9 u t H1 locs ht hvm hw hB hz1 hk1 hS hce hcv hcl => ?_) (fun u t H1 locs ht hvm hw hB hz1 hk1 hS => ?_)
  · skip
    obtain ⟨hEE, hB⟩ := hB
    obtain ⟨hP, hD⟩ := PX_take ht hFc hB
    exact vx_out (E := E) (fun x hx => (hne x hx).elim) hlocks hce hcv hcl (fun t ht ha => ⟨(), trivial, ⟨⟨hEE.1, (by simp only [f_joined, hEE.2, ↓reduceIte])⟩, by rw [ht]; exact hP, va_K.moved ha hK, hD⟩, hS.F ht⟩) hS.2.2 (by decide) (by decide)
  · skip
    obtain ⟨hr1, rfl⟩ := hw
    obtain ⟨hP, hD⟩ := PX_take ht hFc hB
    generalize H1 = H at hP hS ⊢
    have hP : va_P (dC, dI) vwCl (wX c0 a (n, wk, sd, bt, lt, lo, rk, ad, vl, bg, cm, sp, gd, rf, ct, rd, sm, js, sn, wl)) H := hP
    have hD : va_D A (wX c0 a (n, wk, sd, bt, lt, lo, rk, ad, vl, bg, cm, sp, gd, rf, ct, rd, sm, js, sn, wl)) := hD
    refine lv_aload_n hx hb dX0_joined_4 rfl (lv_at hl 0 rfl) ?_
    refine va_get (D := (dC, dI)) (ci := 0) (v := .ref (a 3)) (C := RX0) (T := TX0) (N := 6) hx hb hts inX0 hown hK hP 0 rfl rfl 2 (by decide) (hE.t m_145 rfl) (fun _ h9 => h9) rfl dX0_joined_5 ?_
    refine va_getN (D := (dC, dI)) (ci := 3) (v := .long sm) (C := RX3) (T := TX3) (N := 8) hx hb hts inX3 hown hK hP 3 rfl rfl 4 (by decide) (hE.t m_120 rfl) (fun _ h9 => h9) rfl dX0_joined_8 ?_
    refine vx_ret ?_
    exact W.lret (v := sm) hx hb hr (fun t ht hW => ⟨⟨sm, (n, wk, sd, bt, lt, lo, rk, ad, vl, bg, cm, sp, gd, rf, ct, rd, sm, js, sn, wl), rfl, (by simp only [f_joined, hr1, ↓reduceIte]), by rw [ht]; exact hP, va_K.moved hW.alike hK, hD⟩, hS.F ht⟩) hS.2.2 dX0_joined_11
set_option maxHeartbeats 4000000 in
set_option maxRecDepth 100000 in
/-- many -/
theorem c_X0_many (l : Launch) (hl9 : l.stackTraces = false) (dC : Nat → ClassId) (dI : Nat → Nat → Nat) (c0 : ClassId) (a : Nat → Nat) (sz : Nat) (n : Nat) (wk sd bt lt lo rk ad vl bg cm : Nat → Int32) (sp gd rf : Int32) (ct : Nat) (rd : Int32) (sm : Int64) (js sn wl : Int32) (hn : n ≤ 40) : vx_Met l yX0_many wsX0_many ({ frames := 7, cells := 1, slots := 6, locals := 103 }) (va_Pc [.ref (a 0)] (PX dC dI c0 a (n, wk, sd, bt, lt, lo, rk, ad, vl, bg, cm, sp, gd, rf, ct, rd, sm, js, sn, wl) sz)) (va_Qi (fun (r : Int32) (u : xS) => f_many (n, wk, sd, bt, lt, lo, rk, ad, vl, bg, cm, sp, gd, rf, ct, rd, sm, js, sn, wl) = (0, r.toInt64, u)) (BX dC dI c0 a (va_A (wX c0 a (n, wk, sd, bt, lt, lo, rk, ad, vl, bg, cm, sp, gd, rf, ct, rd, sm, js, sn, wl)) sz)) (va_A (wX c0 a (n, wk, sd, bt, lt, lo, rk, ad, vl, bg, cm, sp, gd, rf, ct, rd, sm, js, sn, wl)) sz)) (vx_X (fun _ : Unit => True) (fun (E : String) (_ : Unit) t => ((E = "java/lang/IllegalStateException" ∧ f_many (n, wk, sd, bt, lt, lo, rk, ad, vl, bg, cm, sp, gd, rf, ct, rd, sm, js, sn, wl) = (1, 0, (n, wk, sd, bt, lt, lo, rk, ad, vl, bg, cm, sp, gd, rf, ct, rd, sm, js, sn, wl)))) ∧ BX dC dI c0 a (va_A (wX c0 a (n, wk, sd, bt, lt, lo, rk, ad, vl, bg, cm, sp, gd, rf, ct, rd, sm, js, sn, wl)) sz) (n, wk, sd, bt, lt, lo, rk, ad, vl, bg, cm, sp, gd, rf, ct, rd, sm, js, sn, wl) t) (va_A (wX c0 a (n, wk, sd, bt, lt, lo, rk, ad, vl, bg, cm, sp, gd, rf, ct, rd, sm, js, sn, wl)) sz)) 1 6 (va_A (wX c0 a (n, wk, sd, bt, lt, lo, rk, ad, vl, bg, cm, sp, gd, rf, ct, rd, sm, js, sn, wl)) sz) := by
  refine vx_ofW (cc := cX0_many) (maxL := 1) (ret := (some .int)) (by decide) rfl ?_
  intro p e s m args below meth c s₁ B hml hne hv
  obtain ⟨rfl, hsz, hP, hK, hD0, hE⟩ := hv
  have hx := B.exec
  have hb := B.bytes
  have hr := B.returns
  have hown : s.vm.findClass RX0 = some m.cls := findClass_of_methodNamed B.named
  have hlocks := B.notSynchronized
  subst hsz
  have hD := hD0.self (sz := s.heap.size)
  generalize hAe : va_A (wX c0 a (n, wk, sd, bt, lt, lo, rk, ad, vl, bg, cm, sp, gd, rf, ct, rd, sm, js, sn, wl)) s.heap.size = A at hD hE ⊢
  have hts := hE.ts (args := ([.ref (a 0)] : List Value).toArray)
  have hA : ∀ q : Nat, s.heap.size ≤ q → A q := fun q h => by rw [← hAe]; exact Or.inr h
  have hS : va_S A s.heap s.heap [] := va_S.rf
  have hP : va_P (dC, dI) vwCl (wX c0 a (n, wk, sd, bt, lt, lo, rk, ad, vl, bg, cm, sp, gd, rf, ct, rd, sm, js, sn, wl)) s.heap := hP
  have hl := lv_entry ([.ref (a 0)]) (n := 1) (Nat.le_of_ble_eq_true rfl)
  rw [lg_entry_eq]
  generalize (lg_sl ([.ref (a 0)]) ++ List.replicate (1 - (lg_sl ([.ref (a 0)])).length) Slot.unset).toArray = ls at hl ⊢
  have hl : lv_has ls 1 [(0, .ref (a 0))] := hl
  refine lv_aload_n hx hb dX0_many_0 rfl (lv_at hl 0 rfl) ?_
  have hFc := fre hD hS hA
  refine vx_callv (vx_runV (As := []) (rest := []) ⟨hx, hb, hml, hown, hts⟩ (c_X0_needRun l hl9 dC dI c0 a _ n wk sd bt lt lo rk ad vl bg cm sp gd rf ct rd sm js sn wl ) (cwV 0 hts gX0_many_X0_needRun rfl rfl rfl (by decide +kernel) ⟨(Nat.le_of_ble_eq_true rfl), (Nat.le_of_ble_eq_true rfl)⟩) ⟨PX_blind, va_recv hK hP (ci := 0) (q0 := 0) rfl rfl, PX_give hP hK hD hE hS hFc⟩ rfl rfl hl.1 rfl (lv_room (Nat.le_of_ble_eq_true rfl)) dX0_many_1 ⟨by decide, by decide⟩) hS (fun q _ h => hFc q h) hFc (fun q _ h => hFc q h) (fun E ce q9 u t H1 locs ht hvm hw hB hz1 hk1 hS hce hcv hcl => ?_) (fun u t H1 locs ht hvm hw hB hz1 hk1 hS => ?_)
  · skip
    obtain ⟨hEE, hB⟩ := hB
    obtain ⟨hP, hD⟩ := PX_take ht hFc hB
    exact vx_out (E := E) (fun x hx => (hne x hx).elim) hlocks hce hcv hcl (fun t ht ha => ⟨(), trivial, ⟨⟨hEE.1, (by simp only [f_many, hEE.2, ↓reduceIte])⟩, by rw [ht]; exact hP, va_K.moved ha hK, hD⟩, hS.F ht⟩) hS.2.2 (by decide) (by decide)
  · skip
    obtain ⟨hr1, rfl⟩ := hw
    obtain ⟨hP, hD⟩ := PX_take ht hFc hB
    generalize H1 = H at hP hS ⊢
    have hP : va_P (dC, dI) vwCl (wX c0 a (n, wk, sd, bt, lt, lo, rk, ad, vl, bg, cm, sp, gd, rf, ct, rd, sm, js, sn, wl)) H := hP
    have hD : va_D A (wX c0 a (n, wk, sd, bt, lt, lo, rk, ad, vl, bg, cm, sp, gd, rf, ct, rd, sm, js, sn, wl)) := hD
    refine lv_aload_n hx hb dX0_many_4 rfl (lv_at hl 0 rfl) ?_
    refine va_get (D := (dC, dI)) (ci := 0) (v := .ref (a 3)) (C := RX0) (T := TX0) (N := 6) hx hb hts inX0 hown hK hP 0 rfl rfl 2 (by decide) (hE.t m_145 rfl) (fun _ h9 => h9) rfl dX0_many_5 ?_
    refine va_getN (D := (dC, dI)) (ci := 3) (v := .int js) (C := RX3) (T := TX3) (N := 8) hx hb hts inX3 hown hK hP 3 rfl rfl 5 (by decide) (hE.t m_122 rfl) (fun _ h9 => h9) rfl dX0_many_8 ?_
    refine vx_ret ?_
    exact W.iret (v := js) hx hb hr (fun t ht hW => ⟨⟨js, (n, wk, sd, bt, lt, lo, rk, ad, vl, bg, cm, sp, gd, rf, ct, rd, sm, js, sn, wl), rfl, (by simp only [f_many, hr1, ↓reduceIte]), by rw [ht]; exact hP, va_K.moved hW.alike hK, hD⟩, hS.F ht⟩) hS.2.2 dX0_many_11
set_option maxHeartbeats 4000000 in
set_option maxRecDepth 100000 in
/-- value -/
theorem c_X0_value (l : Launch) (hl9 : l.stackTraces = false) (dC : Nat → ClassId) (dI : Nat → Nat → Nat) (c0 : ClassId) (a : Nat → Nat) (sz : Nat) (n : Nat) (wk sd bt lt lo rk ad vl bg cm : Nat → Int32) (sp gd rf : Int32) (ct : Nat) (rd : Int32) (sm : Int64) (js sn wl : Int32) (k : Int32) (hn : n ≤ 40) : vx_Met l yX0_value wsX0_value ({ frames := 7, cells := 2, slots := 12, locals := 103 }) (va_Pc [.ref (a 0), .int k] (PX dC dI c0 a (n, wk, sd, bt, lt, lo, rk, ad, vl, bg, cm, sp, gd, rf, ct, rd, sm, js, sn, wl) sz)) (va_Qi (fun (r : Int32) (u : xS) => f_value (n, wk, sd, bt, lt, lo, rk, ad, vl, bg, cm, sp, gd, rf, ct, rd, sm, js, sn, wl) k = (0, r.toInt64, u)) (BX dC dI c0 a (va_A (wX c0 a (n, wk, sd, bt, lt, lo, rk, ad, vl, bg, cm, sp, gd, rf, ct, rd, sm, js, sn, wl)) sz)) (va_A (wX c0 a (n, wk, sd, bt, lt, lo, rk, ad, vl, bg, cm, sp, gd, rf, ct, rd, sm, js, sn, wl)) sz)) (vx_X (fun _ : Unit => True) (fun (E : String) (_ : Unit) t => ((E = "java/lang/IndexOutOfBoundsException" ∧ f_value (n, wk, sd, bt, lt, lo, rk, ad, vl, bg, cm, sp, gd, rf, ct, rd, sm, js, sn, wl) k = (1, 0, (n, wk, sd, bt, lt, lo, rk, ad, vl, bg, cm, sp, gd, rf, ct, rd, sm, js, sn, wl))) ∨ (E = "java/lang/IllegalStateException" ∧ f_value (n, wk, sd, bt, lt, lo, rk, ad, vl, bg, cm, sp, gd, rf, ct, rd, sm, js, sn, wl) k = (2, 0, (n, wk, sd, bt, lt, lo, rk, ad, vl, bg, cm, sp, gd, rf, ct, rd, sm, js, sn, wl)))) ∧ BX dC dI c0 a (va_A (wX c0 a (n, wk, sd, bt, lt, lo, rk, ad, vl, bg, cm, sp, gd, rf, ct, rd, sm, js, sn, wl)) sz) (n, wk, sd, bt, lt, lo, rk, ad, vl, bg, cm, sp, gd, rf, ct, rd, sm, js, sn, wl) t) (va_A (wX c0 a (n, wk, sd, bt, lt, lo, rk, ad, vl, bg, cm, sp, gd, rf, ct, rd, sm, js, sn, wl)) sz)) 2 12 (va_A (wX c0 a (n, wk, sd, bt, lt, lo, rk, ad, vl, bg, cm, sp, gd, rf, ct, rd, sm, js, sn, wl)) sz) := by
  refine vx_ofW (cc := cX0_value) (maxL := 2) (ret := (some .int)) (by decide) rfl ?_
  intro p e s m args below meth c s₁ B hml hne hv
  obtain ⟨rfl, hsz, hP, hK, hD0, hE⟩ := hv
  have hx := B.exec
  have hb := B.bytes
  have hr := B.returns
  have hown : s.vm.findClass RX0 = some m.cls := findClass_of_methodNamed B.named
  have hlocks := B.notSynchronized
  subst hsz
  have hD := hD0.self (sz := s.heap.size)
  generalize hAe : va_A (wX c0 a (n, wk, sd, bt, lt, lo, rk, ad, vl, bg, cm, sp, gd, rf, ct, rd, sm, js, sn, wl)) s.heap.size = A at hD hE ⊢
  have hts := hE.ts (args := ([.ref (a 0), .int k] : List Value).toArray)
  have hA : ∀ q : Nat, s.heap.size ≤ q → A q := fun q h => by rw [← hAe]; exact Or.inr h
  have hS : va_S A s.heap s.heap [] := va_S.rf
  have hP : va_P (dC, dI) vwCl (wX c0 a (n, wk, sd, bt, lt, lo, rk, ad, vl, bg, cm, sp, gd, rf, ct, rd, sm, js, sn, wl)) s.heap := hP
  have hl := lv_entry ([.ref (a 0), .int k]) (n := 2) (Nat.le_of_ble_eq_true rfl)
  rw [lg_entry_eq]
  generalize (lg_sl ([.ref (a 0), .int k]) ++ List.replicate (2 - (lg_sl ([.ref (a 0), .int k])).length) Slot.unset).toArray = ls at hl ⊢
  have hl : lv_has ls 2 [(0, .ref (a 0)), (1, .int k)] := hl
  refine lv_aload_n hx hb dX0_value_0 rfl (lv_at hl 0 rfl) ?_
  refine lv_iload_n hx hb dX0_value_1 rfl (lv_at hl 1 rfl) ?_
  have hFc := fre hD hS hA
  refine vx_callv (vx_runV (As := [.int k]) (rest := []) ⟨hx, hb, hml, hown, hts⟩ (c_X0_needShare l hl9 dC dI c0 a _ n wk sd bt lt lo rk ad vl bg cm sp gd rf ct rd sm js sn wl k) (cwV 1 hts gX0_value_X0_needShare rfl rfl rfl (by decide +kernel) ⟨(Nat.le_of_ble_eq_true rfl), (Nat.le_of_ble_eq_true rfl)⟩) ⟨PX_blind, va_recv hK hP (ci := 0) (q0 := 0) rfl rfl, PX_give hP hK hD hE hS hFc⟩ rfl rfl hl.1 rfl (lv_room (Nat.le_of_ble_eq_true rfl)) dX0_value_2 ⟨by decide, by decide⟩) hS (fun q _ h => hFc q h) hFc (fun q _ h => hFc q h) (fun E ce q9 u t H1 locs ht hvm hw hB hz1 hk1 hS hce hcv hcl => ?_) (fun u t H1 locs ht hvm hw hB hz1 hk1 hS => ?_)
  · skip
    obtain ⟨hEE, hB⟩ := hB
    obtain ⟨hP, hD⟩ := PX_take ht hFc hB
    exact vx_out (E := E) (fun x hx => (hne x hx).elim) hlocks hce hcv hcl (fun t ht ha => ⟨(), trivial, ⟨Or.inl ⟨hEE.1, (by rcases hEE.2 with h9 | h9 <;> simp only [f_value, h9, ↓reduceIte, ite_self])⟩, by rw [ht]; exact hP, va_K.moved ha hK, hD⟩, hS.F ht⟩) hS.2.2 (by decide) (by decide)
  · skip
    obtain ⟨⟨hq1, hq2⟩, rfl⟩ := hw
    obtain ⟨hP, hD⟩ := PX_take ht hFc hB
    generalize H1 = H at hP hS ⊢
    have hP : va_P (dC, dI) vwCl (wX c0 a (n, wk, sd, bt, lt, lo, rk, ad, vl, bg, cm, sp, gd, rf, ct, rd, sm, js, sn, wl)) H := hP
    have hD : va_D A (wX c0 a (n, wk, sd, bt, lt, lo, rk, ad, vl, bg, cm, sp, gd, rf, ct, rd, sm, js, sn, wl)) := hD
    have hk : vp_in k n := in_of hq1 hq2 (by omega)
    refine lv_aload_n hx hb dX0_value_5 rfl (lv_at hl 0 rfl) ?_
    have hFc := fre hD hS hA
    refine vx_callv (vx_runV (As := []) (rest := []) ⟨hx, hb, hml, hown, hts⟩ (c_X0_needRun l hl9 dC dI c0 a _ n wk sd bt lt lo rk ad vl bg cm sp gd rf ct rd sm js sn wl ) (cwV 0 hts gX0_value_X0_needRun rfl rfl rfl (by decide +kernel) ⟨(Nat.le_of_ble_eq_true rfl), (Nat.le_of_ble_eq_true rfl)⟩) ⟨PX_blind, va_recv hK hP (ci := 0) (q0 := 0) rfl rfl, PX_give hP hK hD hE hS hFc⟩ rfl rfl hl.1 rfl (lv_room (Nat.le_of_ble_eq_true rfl)) dX0_value_6 ⟨by decide, by decide⟩) hS (fun q _ h => hFc q h) hFc (fun q _ h => hFc q h) (fun E ce q9 u t H1 locs ht hvm hw hB hz1 hk1 hS hce hcv hcl => ?_) (fun u t H1 locs ht hvm hw hB hz1 hk1 hS => ?_)
    · skip
      obtain ⟨hEE, hB⟩ := hB
      obtain ⟨hP, hD⟩ := PX_take ht hFc hB
      exact vx_out (E := E) (fun x hx => (hne x hx).elim) hlocks hce hcv hcl (fun t ht ha => ⟨(), trivial, ⟨Or.inr ⟨hEE.1, (by simp only [f_value, hq1, hq2, hEE.2, ↓reduceIte])⟩, by rw [ht]; exact hP, va_K.moved ha hK, hD⟩, hS.F ht⟩) hS.2.2 (by decide) (by decide)
    · skip
      obtain ⟨hr1, rfl⟩ := hw
      obtain ⟨hP, hD⟩ := PX_take ht hFc hB
      generalize H1 = H at hP hS ⊢
      have hP : va_P (dC, dI) vwCl (wX c0 a (n, wk, sd, bt, lt, lo, rk, ad, vl, bg, cm, sp, gd, rf, ct, rd, sm, js, sn, wl)) H := hP
      have hD : va_D A (wX c0 a (n, wk, sd, bt, lt, lo, rk, ad, vl, bg, cm, sp, gd, rf, ct, rd, sm, js, sn, wl)) := hD
      refine lv_aload_n hx hb dX0_value_9 rfl (lv_at hl 0 rfl) ?_
      refine va_get (D := (dC, dI)) (ci := 0) (v := .ref (a 3)) (C := RX0) (T := TX0) (N := 6) hx hb hts inX0 hown hK hP 0 rfl rfl 2 (by decide) (hE.t m_145 rfl) (fun _ h9 => h9) rfl dX0_value_10 ?_
      refine va_getN (D := (dC, dI)) (ci := 3) (v := .ref (a 11)) (C := RX3) (T := TX3) (N := 8) hx hb hts inX3 hown hK hP 3 rfl rfl 0 (by decide) (hE.t m_112 rfl) (fun _ h9 => h9) rfl dX0_value_13 ?_
      refine lv_iload_n hx hb dX0_value_16 rfl (lv_at hl 1 rfl) ?_
      refine va_iald hx hb hK hP 11 0 rfl rfl hk dX0_value_17 ?_
      refine vx_ret ?_
      exact W.iret (v := vl k.toNatClampNeg) hx hb hr (fun t ht hW => ⟨⟨vl k.toNatClampNeg, (n, wk, sd, bt, lt, lo, rk, ad, vl, bg, cm, sp, gd, rf, ct, rd, sm, js, sn, wl), rfl, (by simp only [f_value, hq1, hq2, hr1, ↓reduceIte]), by rw [ht]; exact hP, va_K.moved hW.alike hK, hD⟩, hS.F ht⟩) hS.2.2 dX0_value_18
set_option maxHeartbeats 4000000 in
set_option maxRecDepth 100000 in
/-- chain -/
theorem c_X0_chain (l : Launch) (hl9 : l.stackTraces = false) (dC : Nat → ClassId) (dI : Nat → Nat → Nat) (c0 : ClassId) (a : Nat → Nat) (sz : Nat) (n : Nat) (wk sd bt lt lo rk ad vl bg cm : Nat → Int32) (sp gd rf : Int32) (ct : Nat) (rd : Int32) (sm : Int64) (js sn wl : Int32) (k : Int32) (w : Int32) (hn : n ≤ 40) : vx_Met l yX0_chain wsX0_chain ({ frames := 7, cells := 2, slots := 12, locals := 103 }) (va_Pc [.ref (a 0), .int k, .int w] (PX dC dI c0 a (n, wk, sd, bt, lt, lo, rk, ad, vl, bg, cm, sp, gd, rf, ct, rd, sm, js, sn, wl) sz)) (va_Ql (fun (r : Int64) (u : xS) => f_chain (n, wk, sd, bt, lt, lo, rk, ad, vl, bg, cm, sp, gd, rf, ct, rd, sm, js, sn, wl) k w = (0, r, u)) (BX dC dI c0 a (va_A (wX c0 a (n, wk, sd, bt, lt, lo, rk, ad, vl, bg, cm, sp, gd, rf, ct, rd, sm, js, sn, wl)) sz)) (va_A (wX c0 a (n, wk, sd, bt, lt, lo, rk, ad, vl, bg, cm, sp, gd, rf, ct, rd, sm, js, sn, wl)) sz)) (vx_X (fun _ : Unit => True) (fun (E : String) (_ : Unit) t => ((E = "java/lang/IndexOutOfBoundsException" ∧ f_chain (n, wk, sd, bt, lt, lo, rk, ad, vl, bg, cm, sp, gd, rf, ct, rd, sm, js, sn, wl) k w = (1, 0, (n, wk, sd, bt, lt, lo, rk, ad, vl, bg, cm, sp, gd, rf, ct, rd, sm, js, sn, wl)))) ∧ BX dC dI c0 a (va_A (wX c0 a (n, wk, sd, bt, lt, lo, rk, ad, vl, bg, cm, sp, gd, rf, ct, rd, sm, js, sn, wl)) sz) (n, wk, sd, bt, lt, lo, rk, ad, vl, bg, cm, sp, gd, rf, ct, rd, sm, js, sn, wl) t) (va_A (wX c0 a (n, wk, sd, bt, lt, lo, rk, ad, vl, bg, cm, sp, gd, rf, ct, rd, sm, js, sn, wl)) sz)) 2 12 (va_A (wX c0 a (n, wk, sd, bt, lt, lo, rk, ad, vl, bg, cm, sp, gd, rf, ct, rd, sm, js, sn, wl)) sz) := by
  refine vx_ofW (cc := cX0_chain) (maxL := 3) (ret := (some .long)) (by decide) rfl ?_
  intro p e s m args below meth c s₁ B hml hne hv
  obtain ⟨rfl, hsz, hP, hK, hD0, hE⟩ := hv
  have hx := B.exec
  have hb := B.bytes
  have hr := B.returns
  have hown : s.vm.findClass RX0 = some m.cls := findClass_of_methodNamed B.named
  have hlocks := B.notSynchronized
  subst hsz
  have hD := hD0.self (sz := s.heap.size)
  generalize hAe : va_A (wX c0 a (n, wk, sd, bt, lt, lo, rk, ad, vl, bg, cm, sp, gd, rf, ct, rd, sm, js, sn, wl)) s.heap.size = A at hD hE ⊢
  have hts := hE.ts (args := ([.ref (a 0), .int k, .int w] : List Value).toArray)
  have hA : ∀ q : Nat, s.heap.size ≤ q → A q := fun q h => by rw [← hAe]; exact Or.inr h
  have hS : va_S A s.heap s.heap [] := va_S.rf
  have hP : va_P (dC, dI) vwCl (wX c0 a (n, wk, sd, bt, lt, lo, rk, ad, vl, bg, cm, sp, gd, rf, ct, rd, sm, js, sn, wl)) s.heap := hP
  have hl := lv_entry ([.ref (a 0), .int k, .int w]) (n := 3) (Nat.le_of_ble_eq_true rfl)
  rw [lg_entry_eq]
  generalize (lg_sl ([.ref (a 0), .int k, .int w]) ++ List.replicate (3 - (lg_sl ([.ref (a 0), .int k, .int w])).length) Slot.unset).toArray = ls at hl ⊢
  have hl : lv_has ls 3 [(0, .ref (a 0)), (1, .int k), (2, .int w)] := hl
  refine lv_aload_n hx hb dX0_chain_0 rfl (lv_at hl 0 rfl) ?_
  refine lv_iload_n hx hb dX0_chain_1 rfl (lv_at hl 1 rfl) ?_
  have hFc := fre hD hS hA
  refine vx_callv (vx_runV (As := [.int k]) (rest := []) ⟨hx, hb, hml, hown, hts⟩ (c_X0_needShare l hl9 dC dI c0 a _ n wk sd bt lt lo rk ad vl bg cm sp gd rf ct rd sm js sn wl k) (cwV 1 hts gX0_chain_X0_needShare rfl rfl rfl (by decide +kernel) ⟨(Nat.le_of_ble_eq_true rfl), (Nat.le_of_ble_eq_true rfl)⟩) ⟨PX_blind, va_recv hK hP (ci := 0) (q0 := 0) rfl rfl, PX_give hP hK hD hE hS hFc⟩ rfl rfl hl.1 rfl (lv_room (Nat.le_of_ble_eq_true rfl)) dX0_chain_2 ⟨by decide, by decide⟩) hS (fun q _ h => hFc q h) hFc (fun q _ h => hFc q h) (fun E ce q9 u t H1 locs ht hvm hw hB hz1 hk1 hS hce hcv hcl => ?_) (fun u t H1 locs ht hvm hw hB hz1 hk1 hS => ?_)
  · skip
    obtain ⟨hEE, hB⟩ := hB
    obtain ⟨hP, hD⟩ := PX_take ht hFc hB
    exact vx_out (E := E) (fun x hx => (hne x hx).elim) hlocks hce hcv hcl (fun t ht ha => ⟨(), trivial, ⟨⟨hEE.1, (by rcases hEE.2 with h9 | h9 <;> simp only [f_chain, h9, ↓reduceIte, ite_self])⟩, by rw [ht]; exact hP, va_K.moved ha hK, hD⟩, hS.F ht⟩) hS.2.2 (by decide) (by decide)
  · skip
    obtain ⟨⟨hq1, hq2⟩, rfl⟩ := hw
    obtain ⟨hP, hD⟩ := PX_take ht hFc hB
    generalize H1 = H at hP hS ⊢
    have hP : va_P (dC, dI) vwCl (wX c0 a (n, wk, sd, bt, lt, lo, rk, ad, vl, bg, cm, sp, gd, rf, ct, rd, sm, js, sn, wl)) H := hP
    have hD : va_D A (wX c0 a (n, wk, sd, bt, lt, lo, rk, ad, vl, bg, cm, sp, gd, rf, ct, rd, sm, js, sn, wl)) := hD
    have hk : vp_in k n := in_of hq1 hq2 (by omega)
    refine lv_iload_n hx hb dX0_chain_5 rfl (lv_at hl 2 rfl) ?_
    refine lv_if_lt (tgt := 22) hx hb dX0_chain_6 (by decide) (fun c_6 => ?_) (fun c_6 => ?_)
    · skip
      obtain ⟨sa, hsa⟩ := hE.st (RX0, 130, "there is no such step") (by decide)
      exact vx_throwS (own := RX0) (cls := "java/lang/IndexOutOfBoundsException") (text := "there is no such step") (names := ["java/lang/RuntimeException", "java/lang/Exception"]) (ik := 80) (is := 130) (ic := 84) hx hb hl9 hown (by decide +kernel) (by decide +kernel) (hE.t m_178 rfl) (hE.t m_31 rfl) hsa (vx_hat (L := (vx_atS RX0 84 "java/lang/IndexOutOfBoundsException" ["java/lang/RuntimeException", "java/lang/Exception"])) (B := [.castable "java/lang/IndexOutOfBoundsException" "java/lang/IndexOutOfBoundsException", .declares ⟨"java/lang/RuntimeException", "<init>", "(Ljava/lang/String;)V"⟩, .declares ⟨"java/lang/Exception", "<init>", "(Ljava/lang/String;)V"⟩, .declares ⟨"java/lang/Throwable", "<init>", "(Ljava/lang/String;)V"⟩]) (fun w hw => hts w (List.mem_filter.mpr ⟨at_X0_IndexOutOfBoundsException w hw, (List.mem_filter.mp hw).2⟩)) ab_X0_IndexOutOfBoundsException (vx_c (hE.t m_180 rfl) (vx_c (hE.t m_182 rfl) (vx_c (hE.t m_184 rfl) (vx_c (hE.t m_186 rfl) vx_n))))) gd_X0_IndexOutOfBoundsException hE.zu hE.zn hS (by rw [hml]; exact hl.1) dX0_chain_22 dX0_chain_25 dX0_chain_26 dX0_chain_28 dX0_chain_31 (fun x hx => (hne x hx).elim) (by decide) (by decide) (by decide) (by decide) hlocks (fun t hvm h1 h2 => ⟨(), trivial, ⟨⟨rfl, (by simp only [f_chain, c_6, hq1, hq2, ↓reduceIte])⟩, (thr_B hP hK hD hS hvm h1 h2).1⟩, (thr_B hP hK hD hS hvm h1 h2).2⟩) hS.2.2 (by decide) (by decide)
    · skip
      refine lv_iload_n hx hb dX0_chain_9 rfl (lv_at hl 2 rfl) ?_
      refine lv_aload_n hx hb dX0_chain_10 rfl (lv_at hl 0 rfl) ?_
      refine va_get (D := (dC, dI)) (ci := 0) (v := .ref (a 1)) (C := RX0) (T := TX0) (N := 6) hx hb hts inX0 hown hK hP 0 rfl rfl 0 (by decide) (hE.t m_143 rfl) (fun _ h9 => h9) rfl dX0_chain_11 ?_
      refine va_getN (D := (dC, dI)) (ci := 1) (v := .ref (a 4)) (C := RX1) (T := TX1) (N := 6) hx hb hts inX1 hown hK hP 1 rfl rfl 1 (by decide) (hE.t m_61 rfl) (fun _ h9 => h9) rfl dX0_chain_14 ?_
      refine lv_iload_n hx hb dX0_chain_17 rfl (lv_at hl 1 rfl) ?_
      refine va_iald hx hb hK hP 4 0 rfl rfl hk dX0_chain_18 ?_
      refine lv_icmp_le (tgt := 32) hx hb dX0_chain_19 (by decide) (fun c_19 => ?_) (fun c_19 => ?_)
      · skip
        refine lv_aload_n hx hb dX0_chain_32 rfl (lv_at hl 0 rfl) ?_
        refine va_get (D := (dC, dI)) (ci := 0) (v := .ref (a 1)) (C := RX0) (T := TX0) (N := 6) hx hb hts inX0 hown hK hP 0 rfl rfl 0 (by decide) (hE.t m_143 rfl) (fun _ h9 => h9) rfl dX0_chain_33 ?_
        refine lv_iload_n hx hb dX0_chain_36 rfl (lv_at hl 1 rfl) ?_
        refine lv_iload_n hx hb dX0_chain_37 rfl (lv_at hl 2 rfl) ?_
        have hFc := fre hD hS hA
        refine va_calll (va_runVN (As := [.int k, .int w]) (rest := []) ⟨hx, hb, hml, hown, hts⟩ (c_X1_behind l dC dI c0 a _ n wk sd bt lt lo rk ad vl bg cm sp gd rf ct rd sm js sn wl k w hk) ⟨va_cnB (host := "DrawShares") 2 hts gX0_chain_X1_behind rfl rfl rfl (hE.t0 m_389 rfl) (hE.t m_23 rfl) (by decide +kernel) ⟨(Nat.le_of_ble_eq_true rfl), (Nat.le_of_ble_eq_true rfl)⟩, hE.t m_330 rfl, hE.t m_6 rfl⟩ ⟨PX_blind, va_recv hK hP (ci := 1) (q0 := 1) rfl rfl, PX_give hP hK hD hE hS hFc⟩ rfl rfl hl.1 rfl (lv_room (Nat.le_of_ble_eq_true rfl)) dX0_chain_38 ⟨by decide, by decide⟩) hS (fun q _ h => hFc q h) hFc (fun r_38 u t H1 locs ht hvm hw hB hz1 hk1 hS => ?_)
        obtain ⟨rfl, rfl⟩ := hw
        obtain ⟨hP, hD⟩ := PX_take ht hFc hB
        generalize H1 = H at hP hS ⊢
        have hP : va_P (dC, dI) vwCl (wX c0 a (n, wk, sd, bt, lt, lo, rk, ad, vl, bg, cm, sp, gd, rf, ct, rd, sm, js, sn, wl)) H := hP
        have hD : va_D A (wX c0 a (n, wk, sd, bt, lt, lo, rk, ad, vl, bg, cm, sp, gd, rf, ct, rd, sm, js, sn, wl)) := hD
        refine vx_ret ?_
        refine W.widen (k := 2) (n := 12) (by omega) (by omega) ?_
        exact W.lret (v := chx (sd k.toNatClampNeg) k w.toNatClampNeg) hx hb hr (fun t ht hW => ⟨⟨chx (sd k.toNatClampNeg) k w.toNatClampNeg, (n, wk, sd, bt, lt, lo, rk, ad, vl, bg, cm, sp, gd, rf, ct, rd, sm, js, sn, wl), rfl, (by simp only [f_chain, c_6, c_19, hq1, hq2, ↓reduceIte]), by rw [ht]; exact hP, va_K.moved hW.alike hK, hD⟩, hS.F ht⟩) hS.2.2 dX0_chain_41
      · skip
        obtain ⟨sa, hsa⟩ := hE.st (RX0, 130, "there is no such step") (by decide)
        exact vx_throwS (own := RX0) (cls := "java/lang/IndexOutOfBoundsException") (text := "there is no such step") (names := ["java/lang/RuntimeException", "java/lang/Exception"]) (ik := 80) (is := 130) (ic := 84) hx hb hl9 hown (by decide +kernel) (by decide +kernel) (hE.t m_178 rfl) (hE.t m_31 rfl) hsa (vx_hat (L := (vx_atS RX0 84 "java/lang/IndexOutOfBoundsException" ["java/lang/RuntimeException", "java/lang/Exception"])) (B := [.castable "java/lang/IndexOutOfBoundsException" "java/lang/IndexOutOfBoundsException", .declares ⟨"java/lang/RuntimeException", "<init>", "(Ljava/lang/String;)V"⟩, .declares ⟨"java/lang/Exception", "<init>", "(Ljava/lang/String;)V"⟩, .declares ⟨"java/lang/Throwable", "<init>", "(Ljava/lang/String;)V"⟩]) (fun w hw => hts w (List.mem_filter.mpr ⟨at_X0_IndexOutOfBoundsException w hw, (List.mem_filter.mp hw).2⟩)) ab_X0_IndexOutOfBoundsException (vx_c (hE.t m_180 rfl) (vx_c (hE.t m_182 rfl) (vx_c (hE.t m_184 rfl) (vx_c (hE.t m_186 rfl) vx_n))))) gd_X0_IndexOutOfBoundsException hE.zu hE.zn hS (by rw [hml]; exact hl.1) dX0_chain_22 dX0_chain_25 dX0_chain_26 dX0_chain_28 dX0_chain_31 (fun x hx => (hne x hx).elim) (by decide) (by decide) (by decide) (by decide) hlocks (fun t hvm h1 h2 => ⟨(), trivial, ⟨⟨rfl, (by simp only [f_chain, c_6, c_19, hq1, hq2, ↓reduceIte])⟩, (thr_B hP hK hD hS hvm h1 h2).1⟩, (thr_B hP hK hD hS hvm h1 h2).2⟩) hS.2.2 (by decide) (by decide)
set_option maxHeartbeats 4000000 in
set_option maxRecDepth 100000 in
/-- came -/
theorem c_X0_came (l : Launch) (hl9 : l.stackTraces = false) (dC : Nat → ClassId) (dI : Nat → Nat → Nat) (c0 : ClassId) (a : Nat → Nat) (sz : Nat) (n : Nat) (wk sd bt lt lo rk ad vl bg cm : Nat → Int32) (sp gd rf : Int32) (ct : Nat) (rd : Int32) (sm : Int64) (js sn wl : Int32) (k : Int32) (hn : n ≤ 40) (hct : ct ≤ 24) : vx_Met l yX0_came wsX0_came ({ frames := 7, cells := 2, slots := 12, locals := 103 }) (va_Pc [.ref (a 0), .int k] (PX dC dI c0 a (n, wk, sd, bt, lt, lo, rk, ad, vl, bg, cm, sp, gd, rf, ct, rd, sm, js, sn, wl) sz)) (va_Qi (fun (r : Int32) (u : xS) => f_came (n, wk, sd, bt, lt, lo, rk, ad, vl, bg, cm, sp, gd, rf, ct, rd, sm, js, sn, wl) k = (0, r.toInt64, u)) (BX dC dI c0 a (va_A (wX c0 a (n, wk, sd, bt, lt, lo, rk, ad, vl, bg, cm, sp, gd, rf, ct, rd, sm, js, sn, wl)) sz)) (va_A (wX c0 a (n, wk, sd, bt, lt, lo, rk, ad, vl, bg, cm, sp, gd, rf, ct, rd, sm, js, sn, wl)) sz)) (vx_X (fun _ : Unit => True) (fun (E : String) (_ : Unit) t => ((E = "java/lang/IndexOutOfBoundsException" ∧ f_came (n, wk, sd, bt, lt, lo, rk, ad, vl, bg, cm, sp, gd, rf, ct, rd, sm, js, sn, wl) k = (1, 0, (n, wk, sd, bt, lt, lo, rk, ad, vl, bg, cm, sp, gd, rf, ct, rd, sm, js, sn, wl))) ∨ (E = "java/lang/IllegalStateException" ∧ f_came (n, wk, sd, bt, lt, lo, rk, ad, vl, bg, cm, sp, gd, rf, ct, rd, sm, js, sn, wl) k = (2, 0, (n, wk, sd, bt, lt, lo, rk, ad, vl, bg, cm, sp, gd, rf, ct, rd, sm, js, sn, wl)))) ∧ BX dC dI c0 a (va_A (wX c0 a (n, wk, sd, bt, lt, lo, rk, ad, vl, bg, cm, sp, gd, rf, ct, rd, sm, js, sn, wl)) sz) (n, wk, sd, bt, lt, lo, rk, ad, vl, bg, cm, sp, gd, rf, ct, rd, sm, js, sn, wl) t) (va_A (wX c0 a (n, wk, sd, bt, lt, lo, rk, ad, vl, bg, cm, sp, gd, rf, ct, rd, sm, js, sn, wl)) sz)) 2 12 (va_A (wX c0 a (n, wk, sd, bt, lt, lo, rk, ad, vl, bg, cm, sp, gd, rf, ct, rd, sm, js, sn, wl)) sz) := by
  refine vx_ofW (cc := cX0_came) (maxL := 2) (ret := (some .int)) (by decide) rfl ?_
  intro p e s m args below meth c s₁ B hml hne hv
  obtain ⟨rfl, hsz, hP, hK, hD0, hE⟩ := hv
  have hx := B.exec
  have hb := B.bytes
  have hr := B.returns
  have hown : s.vm.findClass RX0 = some m.cls := findClass_of_methodNamed B.named
  have hlocks := B.notSynchronized
  subst hsz
  have hD := hD0.self (sz := s.heap.size)
  generalize hAe : va_A (wX c0 a (n, wk, sd, bt, lt, lo, rk, ad, vl, bg, cm, sp, gd, rf, ct, rd, sm, js, sn, wl)) s.heap.size = A at hD hE ⊢
  have hts := hE.ts (args := ([.ref (a 0), .int k] : List Value).toArray)
  have hA : ∀ q : Nat, s.heap.size ≤ q → A q := fun q h => by rw [← hAe]; exact Or.inr h
  have hS : va_S A s.heap s.heap [] := va_S.rf
  have hP : va_P (dC, dI) vwCl (wX c0 a (n, wk, sd, bt, lt, lo, rk, ad, vl, bg, cm, sp, gd, rf, ct, rd, sm, js, sn, wl)) s.heap := hP
  have hl := lv_entry ([.ref (a 0), .int k]) (n := 2) (Nat.le_of_ble_eq_true rfl)
  rw [lg_entry_eq]
  generalize (lg_sl ([.ref (a 0), .int k]) ++ List.replicate (2 - (lg_sl ([.ref (a 0), .int k])).length) Slot.unset).toArray = ls at hl ⊢
  have hl : lv_has ls 2 [(0, .ref (a 0)), (1, .int k)] := hl
  refine lv_iload_n hx hb dX0_came_0 rfl (lv_at hl 1 rfl) ?_
  refine lv_if_lt (tgt := 15) hx hb dX0_came_1 (by decide) (fun c_1 => ?_) (fun c_1 => ?_)
  · skip
    obtain ⟨sa, hsa⟩ := hE.st (RX0, 136, "there is no such act") (by decide)
    exact vx_throwS (own := RX0) (cls := "java/lang/IndexOutOfBoundsException") (text := "there is no such act") (names := ["java/lang/RuntimeException", "java/lang/Exception"]) (ik := 80) (is := 136) (ic := 84) hx hb hl9 hown (by decide +kernel) (by decide +kernel) (hE.t m_178 rfl) (hE.t m_31 rfl) hsa (vx_hat (L := (vx_atS RX0 84 "java/lang/IndexOutOfBoundsException" ["java/lang/RuntimeException", "java/lang/Exception"])) (B := [.castable "java/lang/IndexOutOfBoundsException" "java/lang/IndexOutOfBoundsException", .declares ⟨"java/lang/RuntimeException", "<init>", "(Ljava/lang/String;)V"⟩, .declares ⟨"java/lang/Exception", "<init>", "(Ljava/lang/String;)V"⟩, .declares ⟨"java/lang/Throwable", "<init>", "(Ljava/lang/String;)V"⟩]) (fun w hw => hts w (List.mem_filter.mpr ⟨at_X0_IndexOutOfBoundsException w hw, (List.mem_filter.mp hw).2⟩)) ab_X0_IndexOutOfBoundsException (vx_c (hE.t m_180 rfl) (vx_c (hE.t m_182 rfl) (vx_c (hE.t m_184 rfl) (vx_c (hE.t m_186 rfl) vx_n))))) gd_X0_IndexOutOfBoundsException hE.zu hE.zn hS (by rw [hml]; exact hl.1) dX0_came_15 dX0_came_18 dX0_came_19 dX0_came_21 dX0_came_24 (fun x hx => (hne x hx).elim) (by decide) (by decide) (by decide) (by decide) hlocks (fun t hvm h1 h2 => ⟨(), trivial, ⟨Or.inl ⟨rfl, (by simp only [f_came, c_1, ↓reduceIte])⟩, (thr_B hP hK hD hS hvm h1 h2).1⟩, (thr_B hP hK hD hS hvm h1 h2).2⟩) hS.2.2 (by decide) (by decide)
  · skip
    refine lv_iload_n hx hb dX0_came_4 rfl (lv_at hl 1 rfl) ?_
    refine lv_aload_n hx hb dX0_came_5 rfl (lv_at hl 0 rfl) ?_
    refine va_get (D := (dC, dI)) (ci := 0) (v := .ref (a 2)) (C := RX0) (T := TX0) (N := 6) hx hb hts inX0 hown hK hP 0 rfl rfl 1 (by decide) (hE.t m_144 rfl) (fun _ h9 => h9) rfl dX0_came_6 ?_
    refine va_getN (D := (dC, dI)) (ci := 2) (v := .int (nI ct)) (C := RX2) (T := TX2) (N := 3) hx hb hts inX2 hown hK hP 2 rfl rfl 2 (by decide) (hE.t m_97 rfl) (fun _ h9 => h9) rfl dX0_came_9 ?_
    refine lv_icmp_lt (tgt := 25) hx hb dX0_came_12 (by decide) (fun c_12 => ?_) (fun c_12 => ?_)
    · skip
      have hk : vp_in k 24 := in_le (in_of c_1 c_12 (by omega)) hct
      refine lv_aload_n hx hb dX0_came_25 rfl (lv_at hl 0 rfl) ?_
      have hFc := fre hD hS hA
      refine vx_callv (vx_runV (As := []) (rest := []) ⟨hx, hb, hml, hown, hts⟩ (c_X0_needRun l hl9 dC dI c0 a _ n wk sd bt lt lo rk ad vl bg cm sp gd rf ct rd sm js sn wl ) (cwV 0 hts gX0_came_X0_needRun rfl rfl rfl (by decide +kernel) ⟨(Nat.le_of_ble_eq_true rfl), (Nat.le_of_ble_eq_true rfl)⟩) ⟨PX_blind, va_recv hK hP (ci := 0) (q0 := 0) rfl rfl, PX_give hP hK hD hE hS hFc⟩ rfl rfl hl.1 rfl (lv_room (Nat.le_of_ble_eq_true rfl)) dX0_came_26 ⟨by decide, by decide⟩) hS (fun q _ h => hFc q h) hFc (fun q _ h => hFc q h) (fun E ce q9 u t H1 locs ht hvm hw hB hz1 hk1 hS hce hcv hcl => ?_) (fun u t H1 locs ht hvm hw hB hz1 hk1 hS => ?_)
      · skip
        obtain ⟨hEE, hB⟩ := hB
        obtain ⟨hP, hD⟩ := PX_take ht hFc hB
        exact vx_out (E := E) (fun x hx => (hne x hx).elim) hlocks hce hcv hcl (fun t ht ha => ⟨(), trivial, ⟨Or.inr ⟨hEE.1, (by simp only [f_came, c_1, c_12, hEE.2, ↓reduceIte])⟩, by rw [ht]; exact hP, va_K.moved ha hK, hD⟩, hS.F ht⟩) hS.2.2 (by decide) (by decide)
      · skip
        obtain ⟨hr1, rfl⟩ := hw
        obtain ⟨hP, hD⟩ := PX_take ht hFc hB
        generalize H1 = H at hP hS ⊢
        have hP : va_P (dC, dI) vwCl (wX c0 a (n, wk, sd, bt, lt, lo, rk, ad, vl, bg, cm, sp, gd, rf, ct, rd, sm, js, sn, wl)) H := hP
        have hD : va_D A (wX c0 a (n, wk, sd, bt, lt, lo, rk, ad, vl, bg, cm, sp, gd, rf, ct, rd, sm, js, sn, wl)) := hD
        refine lv_aload_n hx hb dX0_came_29 rfl (lv_at hl 0 rfl) ?_
        refine va_get (D := (dC, dI)) (ci := 0) (v := .ref (a 3)) (C := RX0) (T := TX0) (N := 6) hx hb hts inX0 hown hK hP 0 rfl rfl 2 (by decide) (hE.t m_145 rfl) (fun _ h9 => h9) rfl dX0_came_30 ?_
        refine va_getN (D := (dC, dI)) (ci := 3) (v := .ref (a 13)) (C := RX3) (T := TX3) (N := 8) hx hb hts inX3 hown hK hP 3 rfl rfl 2 (by decide) (hE.t m_116 rfl) (fun _ h9 => h9) rfl dX0_came_33 ?_
        refine lv_iload_n hx hb dX0_came_36 rfl (lv_at hl 1 rfl) ?_
        refine va_iald hx hb hK hP 13 0 rfl rfl hk dX0_came_37 ?_
        refine vx_ret ?_
        refine W.widen (k := 2) (n := 12) (by omega) (by omega) ?_
        exact W.iret (v := cm k.toNatClampNeg) hx hb hr (fun t ht hW => ⟨⟨cm k.toNatClampNeg, (n, wk, sd, bt, lt, lo, rk, ad, vl, bg, cm, sp, gd, rf, ct, rd, sm, js, sn, wl), rfl, (by simp only [f_came, c_1, c_12, hr1, ↓reduceIte]), by rw [ht]; exact hP, va_K.moved hW.alike hK, hD⟩, hS.F ht⟩) hS.2.2 dX0_came_38
    · skip
      obtain ⟨sa, hsa⟩ := hE.st (RX0, 136, "there is no such act") (by decide)
      exact vx_throwS (own := RX0) (cls := "java/lang/IndexOutOfBoundsException") (text := "there is no such act") (names := ["java/lang/RuntimeException", "java/lang/Exception"]) (ik := 80) (is := 136) (ic := 84) hx hb hl9 hown (by decide +kernel) (by decide +kernel) (hE.t m_178 rfl) (hE.t m_31 rfl) hsa (vx_hat (L := (vx_atS RX0 84 "java/lang/IndexOutOfBoundsException" ["java/lang/RuntimeException", "java/lang/Exception"])) (B := [.castable "java/lang/IndexOutOfBoundsException" "java/lang/IndexOutOfBoundsException", .declares ⟨"java/lang/RuntimeException", "<init>", "(Ljava/lang/String;)V"⟩, .declares ⟨"java/lang/Exception", "<init>", "(Ljava/lang/String;)V"⟩, .declares ⟨"java/lang/Throwable", "<init>", "(Ljava/lang/String;)V"⟩]) (fun w hw => hts w (List.mem_filter.mpr ⟨at_X0_IndexOutOfBoundsException w hw, (List.mem_filter.mp hw).2⟩)) ab_X0_IndexOutOfBoundsException (vx_c (hE.t m_180 rfl) (vx_c (hE.t m_182 rfl) (vx_c (hE.t m_184 rfl) (vx_c (hE.t m_186 rfl) vx_n))))) gd_X0_IndexOutOfBoundsException hE.zu hE.zn hS (by rw [hml]; exact hl.1) dX0_came_15 dX0_came_18 dX0_came_19 dX0_came_21 dX0_came_24 (fun x hx => (hne x hx).elim) (by decide) (by decide) (by decide) (by decide) hlocks (fun t hvm h1 h2 => ⟨(), trivial, ⟨Or.inl ⟨rfl, (by simp only [f_came, c_1, c_12, ↓reduceIte])⟩, (thr_B hP hK hD hS hvm h1 h2).1⟩, (thr_B hP hK hD hS hvm h1 h2).2⟩) hS.2.2 (by decide) (by decide)
set_option maxHeartbeats 4000000 in
set_option maxRecDepth 100000 in
/-- begun -/
theorem c_X0_begun (l : Launch) (hl9 : l.stackTraces = false) (dC : Nat → ClassId) (dI : Nat → Nat → Nat) (c0 : ClassId) (a : Nat → Nat) (sz : Nat) (n : Nat) (wk sd bt lt lo rk ad vl bg cm : Nat → Int32) (sp gd rf : Int32) (ct : Nat) (rd : Int32) (sm : Int64) (js sn wl : Int32) (k : Int32) (hn : n ≤ 40) : vx_Met l yX0_begun wsX0_begun ({ frames := 7, cells := 2, slots := 12, locals := 103 }) (va_Pc [.ref (a 0), .int k] (PX dC dI c0 a (n, wk, sd, bt, lt, lo, rk, ad, vl, bg, cm, sp, gd, rf, ct, rd, sm, js, sn, wl) sz)) (va_Qi (fun (r : Int32) (u : xS) => f_begun (n, wk, sd, bt, lt, lo, rk, ad, vl, bg, cm, sp, gd, rf, ct, rd, sm, js, sn, wl) k = (0, r.toInt64, u)) (BX dC dI c0 a (va_A (wX c0 a (n, wk, sd, bt, lt, lo, rk, ad, vl, bg, cm, sp, gd, rf, ct, rd, sm, js, sn, wl)) sz)) (va_A (wX c0 a (n, wk, sd, bt, lt, lo, rk, ad, vl, bg, cm, sp, gd, rf, ct, rd, sm, js, sn, wl)) sz)) (vx_X (fun _ : Unit => True) (fun (E : String) (_ : Unit) t => ((E = "java/lang/IndexOutOfBoundsException" ∧ f_begun (n, wk, sd, bt, lt, lo, rk, ad, vl, bg, cm, sp, gd, rf, ct, rd, sm, js, sn, wl) k = (1, 0, (n, wk, sd, bt, lt, lo, rk, ad, vl, bg, cm, sp, gd, rf, ct, rd, sm, js, sn, wl))) ∨ (E = "java/lang/IllegalStateException" ∧ f_begun (n, wk, sd, bt, lt, lo, rk, ad, vl, bg, cm, sp, gd, rf, ct, rd, sm, js, sn, wl) k = (2, 0, (n, wk, sd, bt, lt, lo, rk, ad, vl, bg, cm, sp, gd, rf, ct, rd, sm, js, sn, wl)))) ∧ BX dC dI c0 a (va_A (wX c0 a (n, wk, sd, bt, lt, lo, rk, ad, vl, bg, cm, sp, gd, rf, ct, rd, sm, js, sn, wl)) sz) (n, wk, sd, bt, lt, lo, rk, ad, vl, bg, cm, sp, gd, rf, ct, rd, sm, js, sn, wl) t) (va_A (wX c0 a (n, wk, sd, bt, lt, lo, rk, ad, vl, bg, cm, sp, gd, rf, ct, rd, sm, js, sn, wl)) sz)) 2 12 (va_A (wX c0 a (n, wk, sd, bt, lt, lo, rk, ad, vl, bg, cm, sp, gd, rf, ct, rd, sm, js, sn, wl)) sz) := by
  refine vx_ofW (cc := cX0_begun) (maxL := 2) (ret := (some .int)) (by decide) rfl ?_
  intro p e s m args below meth c s₁ B hml hne hv
  obtain ⟨rfl, hsz, hP, hK, hD0, hE⟩ := hv
  have hx := B.exec
  have hb := B.bytes
  have hr := B.returns
  have hown : s.vm.findClass RX0 = some m.cls := findClass_of_methodNamed B.named
  have hlocks := B.notSynchronized
  subst hsz
  have hD := hD0.self (sz := s.heap.size)
  generalize hAe : va_A (wX c0 a (n, wk, sd, bt, lt, lo, rk, ad, vl, bg, cm, sp, gd, rf, ct, rd, sm, js, sn, wl)) s.heap.size = A at hD hE ⊢
  have hts := hE.ts (args := ([.ref (a 0), .int k] : List Value).toArray)
  have hA : ∀ q : Nat, s.heap.size ≤ q → A q := fun q h => by rw [← hAe]; exact Or.inr h
  have hS : va_S A s.heap s.heap [] := va_S.rf
  have hP : va_P (dC, dI) vwCl (wX c0 a (n, wk, sd, bt, lt, lo, rk, ad, vl, bg, cm, sp, gd, rf, ct, rd, sm, js, sn, wl)) s.heap := hP
  have hl := lv_entry ([.ref (a 0), .int k]) (n := 2) (Nat.le_of_ble_eq_true rfl)
  rw [lg_entry_eq]
  generalize (lg_sl ([.ref (a 0), .int k]) ++ List.replicate (2 - (lg_sl ([.ref (a 0), .int k])).length) Slot.unset).toArray = ls at hl ⊢
  have hl : lv_has ls 2 [(0, .ref (a 0)), (1, .int k)] := hl
  refine lv_aload_n hx hb dX0_begun_0 rfl (lv_at hl 0 rfl) ?_
  refine lv_iload_n hx hb dX0_begun_1 rfl (lv_at hl 1 rfl) ?_
  have hFc := fre hD hS hA
  refine vx_callv (vx_runV (As := [.int k]) (rest := []) ⟨hx, hb, hml, hown, hts⟩ (c_X0_needShare l hl9 dC dI c0 a _ n wk sd bt lt lo rk ad vl bg cm sp gd rf ct rd sm js sn wl k) (cwV 1 hts gX0_begun_X0_needShare rfl rfl rfl (by decide +kernel) ⟨(Nat.le_of_ble_eq_true rfl), (Nat.le_of_ble_eq_true rfl)⟩) ⟨PX_blind, va_recv hK hP (ci := 0) (q0 := 0) rfl rfl, PX_give hP hK hD hE hS hFc⟩ rfl rfl hl.1 rfl (lv_room (Nat.le_of_ble_eq_true rfl)) dX0_begun_2 ⟨by decide, by decide⟩) hS (fun q _ h => hFc q h) hFc (fun q _ h => hFc q h) (fun E ce q9 u t H1 locs ht hvm hw hB hz1 hk1 hS hce hcv hcl => ?_) (fun u t H1 locs ht hvm hw hB hz1 hk1 hS => ?_)
  · skip
    obtain ⟨hEE, hB⟩ := hB
    obtain ⟨hP, hD⟩ := PX_take ht hFc hB
    exact vx_out (E := E) (fun x hx => (hne x hx).elim) hlocks hce hcv hcl (fun t ht ha => ⟨(), trivial, ⟨Or.inl ⟨hEE.1, (by rcases hEE.2 with h9 | h9 <;> simp only [f_begun, h9, ↓reduceIte, ite_self])⟩, by rw [ht]; exact hP, va_K.moved ha hK, hD⟩, hS.F ht⟩) hS.2.2 (by decide) (by decide)
  · skip
    obtain ⟨⟨hq1, hq2⟩, rfl⟩ := hw
    obtain ⟨hP, hD⟩ := PX_take ht hFc hB
    generalize H1 = H at hP hS ⊢
    have hP : va_P (dC, dI) vwCl (wX c0 a (n, wk, sd, bt, lt, lo, rk, ad, vl, bg, cm, sp, gd, rf, ct, rd, sm, js, sn, wl)) H := hP
    have hD : va_D A (wX c0 a (n, wk, sd, bt, lt, lo, rk, ad, vl, bg, cm, sp, gd, rf, ct, rd, sm, js, sn, wl)) := hD
    have hk : vp_in k n := in_of hq1 hq2 (by omega)
    refine lv_aload_n hx hb dX0_begun_5 rfl (lv_at hl 0 rfl) ?_
    have hFc := fre hD hS hA
    refine vx_callv (vx_runV (As := []) (rest := []) ⟨hx, hb, hml, hown, hts⟩ (c_X0_needRun l hl9 dC dI c0 a _ n wk sd bt lt lo rk ad vl bg cm sp gd rf ct rd sm js sn wl ) (cwV 0 hts gX0_begun_X0_needRun rfl rfl rfl (by decide +kernel) ⟨(Nat.le_of_ble_eq_true rfl), (Nat.le_of_ble_eq_true rfl)⟩) ⟨PX_blind, va_recv hK hP (ci := 0) (q0 := 0) rfl rfl, PX_give hP hK hD hE hS hFc⟩ rfl rfl hl.1 rfl (lv_room (Nat.le_of_ble_eq_true rfl)) dX0_begun_6 ⟨by decide, by decide⟩) hS (fun q _ h => hFc q h) hFc (fun q _ h => hFc q h) (fun E ce q9 u t H1 locs ht hvm hw hB hz1 hk1 hS hce hcv hcl => ?_) (fun u t H1 locs ht hvm hw hB hz1 hk1 hS => ?_)
    · skip
      obtain ⟨hEE, hB⟩ := hB
      obtain ⟨hP, hD⟩ := PX_take ht hFc hB
      exact vx_out (E := E) (fun x hx => (hne x hx).elim) hlocks hce hcv hcl (fun t ht ha => ⟨(), trivial, ⟨Or.inr ⟨hEE.1, (by simp only [f_begun, hq1, hq2, hEE.2, ↓reduceIte])⟩, by rw [ht]; exact hP, va_K.moved ha hK, hD⟩, hS.F ht⟩) hS.2.2 (by decide) (by decide)
    · skip
      obtain ⟨hr1, rfl⟩ := hw
      obtain ⟨hP, hD⟩ := PX_take ht hFc hB
      generalize H1 = H at hP hS ⊢
      have hP : va_P (dC, dI) vwCl (wX c0 a (n, wk, sd, bt, lt, lo, rk, ad, vl, bg, cm, sp, gd, rf, ct, rd, sm, js, sn, wl)) H := hP
      have hD : va_D A (wX c0 a (n, wk, sd, bt, lt, lo, rk, ad, vl, bg, cm, sp, gd, rf, ct, rd, sm, js, sn, wl)) := hD
      refine lv_aload_n hx hb dX0_begun_9 rfl (lv_at hl 0 rfl) ?_
      refine va_get (D := (dC, dI)) (ci := 0) (v := .ref (a 3)) (C := RX0) (T := TX0) (N := 6) hx hb hts inX0 hown hK hP 0 rfl rfl 2 (by decide) (hE.t m_145 rfl) (fun _ h9 => h9) rfl dX0_begun_10 ?_
      refine va_getN (D := (dC, dI)) (ci := 3) (v := .ref (a 12)) (C := RX3) (T := TX3) (N := 8) hx hb hts inX3 hown hK hP 3 rfl rfl 1 (by decide) (hE.t m_114 rfl) (fun _ h9 => h9) rfl dX0_begun_13 ?_
      refine lv_iload_n hx hb dX0_begun_16 rfl (lv_at hl 1 rfl) ?_
      refine va_iald hx hb hK hP 12 0 rfl rfl hk dX0_begun_17 ?_
      refine vx_ret ?_
      exact W.iret (v := bg k.toNatClampNeg) hx hb hr (fun t ht hW => ⟨⟨bg k.toNatClampNeg, (n, wk, sd, bt, lt, lo, rk, ad, vl, bg, cm, sp, gd, rf, ct, rd, sm, js, sn, wl), rfl, (by simp only [f_begun, hq1, hq2, hr1, ↓reduceIte]), by rw [ht]; exact hP, va_K.moved hW.alike hK, hD⟩, hS.F ht⟩) hS.2.2 dX0_begun_18
set_option maxHeartbeats 4000000 in
set_option maxRecDepth 100000 in
/-- steps -/
theorem c_X0_steps (l : Launch) (hl9 : l.stackTraces = false) (dC : Nat → ClassId) (dI : Nat → Nat → Nat) (c0 : ClassId) (a : Nat → Nat) (sz : Nat) (n : Nat) (wk sd bt lt lo rk ad vl bg cm : Nat → Int32) (sp gd rf : Int32) (ct : Nat) (rd : Int32) (sm : Int64) (js sn wl : Int32) (k : Int32) (hn : n ≤ 40) : vx_Met l yX0_steps wsX0_steps ({ frames := 7, cells := 2, slots := 12, locals := 103 }) (va_Pc [.ref (a 0), .int k] (PX dC dI c0 a (n, wk, sd, bt, lt, lo, rk, ad, vl, bg, cm, sp, gd, rf, ct, rd, sm, js, sn, wl) sz)) (va_Qi (fun (r : Int32) (u : xS) => f_steps (n, wk, sd, bt, lt, lo, rk, ad, vl, bg, cm, sp, gd, rf, ct, rd, sm, js, sn, wl) k = (0, r.toInt64, u)) (BX dC dI c0 a (va_A (wX c0 a (n, wk, sd, bt, lt, lo, rk, ad, vl, bg, cm, sp, gd, rf, ct, rd, sm, js, sn, wl)) sz)) (va_A (wX c0 a (n, wk, sd, bt, lt, lo, rk, ad, vl, bg, cm, sp, gd, rf, ct, rd, sm, js, sn, wl)) sz)) (vx_X (fun _ : Unit => True) (fun (E : String) (_ : Unit) t => ((E = "java/lang/IndexOutOfBoundsException" ∧ f_steps (n, wk, sd, bt, lt, lo, rk, ad, vl, bg, cm, sp, gd, rf, ct, rd, sm, js, sn, wl) k = (1, 0, (n, wk, sd, bt, lt, lo, rk, ad, vl, bg, cm, sp, gd, rf, ct, rd, sm, js, sn, wl))) ∨ (E = "java/lang/IllegalStateException" ∧ f_steps (n, wk, sd, bt, lt, lo, rk, ad, vl, bg, cm, sp, gd, rf, ct, rd, sm, js, sn, wl) k = (2, 0, (n, wk, sd, bt, lt, lo, rk, ad, vl, bg, cm, sp, gd, rf, ct, rd, sm, js, sn, wl)))) ∧ BX dC dI c0 a (va_A (wX c0 a (n, wk, sd, bt, lt, lo, rk, ad, vl, bg, cm, sp, gd, rf, ct, rd, sm, js, sn, wl)) sz) (n, wk, sd, bt, lt, lo, rk, ad, vl, bg, cm, sp, gd, rf, ct, rd, sm, js, sn, wl) t) (va_A (wX c0 a (n, wk, sd, bt, lt, lo, rk, ad, vl, bg, cm, sp, gd, rf, ct, rd, sm, js, sn, wl)) sz)) 2 12 (va_A (wX c0 a (n, wk, sd, bt, lt, lo, rk, ad, vl, bg, cm, sp, gd, rf, ct, rd, sm, js, sn, wl)) sz) := by
  refine vx_ofW (cc := cX0_steps) (maxL := 2) (ret := (some .int)) (by decide) rfl ?_
  intro p e s m args below meth c s₁ B hml hne hv
  obtain ⟨rfl, hsz, hP, hK, hD0, hE⟩ := hv
  have hx := B.exec
  have hb := B.bytes
  have hr := B.returns
  have hown : s.vm.findClass RX0 = some m.cls := findClass_of_methodNamed B.named
  have hlocks := B.notSynchronized
  subst hsz
  have hD := hD0.self (sz := s.heap.size)
  generalize hAe : va_A (wX c0 a (n, wk, sd, bt, lt, lo, rk, ad, vl, bg, cm, sp, gd, rf, ct, rd, sm, js, sn, wl)) s.heap.size = A at hD hE ⊢
  have hts := hE.ts (args := ([.ref (a 0), .int k] : List Value).toArray)
  have hA : ∀ q : Nat, s.heap.size ≤ q → A q := fun q h => by rw [← hAe]; exact Or.inr h
  have hS : va_S A s.heap s.heap [] := va_S.rf
  have hP : va_P (dC, dI) vwCl (wX c0 a (n, wk, sd, bt, lt, lo, rk, ad, vl, bg, cm, sp, gd, rf, ct, rd, sm, js, sn, wl)) s.heap := hP
  have hl := lv_entry ([.ref (a 0), .int k]) (n := 2) (Nat.le_of_ble_eq_true rfl)
  rw [lg_entry_eq]
  generalize (lg_sl ([.ref (a 0), .int k]) ++ List.replicate (2 - (lg_sl ([.ref (a 0), .int k])).length) Slot.unset).toArray = ls at hl ⊢
  have hl : lv_has ls 2 [(0, .ref (a 0)), (1, .int k)] := hl
  refine lv_iload_n hx hb dX0_steps_0 rfl (lv_at hl 1 rfl) ?_
  refine lv_if_lt (tgt := 9) hx hb dX0_steps_1 (by decide) (fun c_1 => ?_) (fun c_1 => ?_)
  · skip
    obtain ⟨sa, hsa⟩ := hE.st (RX0, 144, "what is not 0 or 1") (by decide)
    exact vx_throwS (own := RX0) (cls := "java/lang/IndexOutOfBoundsException") (text := "what is not 0 or 1") (names := ["java/lang/RuntimeException", "java/lang/Exception"]) (ik := 80) (is := 144) (ic := 84) hx hb hl9 hown (by decide +kernel) (by decide +kernel) (hE.t m_178 rfl) (hE.t m_31 rfl) hsa (vx_hat (L := (vx_atS RX0 84 "java/lang/IndexOutOfBoundsException" ["java/lang/RuntimeException", "java/lang/Exception"])) (B := [.castable "java/lang/IndexOutOfBoundsException" "java/lang/IndexOutOfBoundsException", .declares ⟨"java/lang/RuntimeException", "<init>", "(Ljava/lang/String;)V"⟩, .declares ⟨"java/lang/Exception", "<init>", "(Ljava/lang/String;)V"⟩, .declares ⟨"java/lang/Throwable", "<init>", "(Ljava/lang/String;)V"⟩]) (fun w hw => hts w (List.mem_filter.mpr ⟨at_X0_IndexOutOfBoundsException w hw, (List.mem_filter.mp hw).2⟩)) ab_X0_IndexOutOfBoundsException (vx_c (hE.t m_180 rfl) (vx_c (hE.t m_182 rfl) (vx_c (hE.t m_184 rfl) (vx_c (hE.t m_186 rfl) vx_n))))) gd_X0_IndexOutOfBoundsException hE.zu hE.zn hS (by rw [hml]; exact hl.1) dX0_steps_9 dX0_steps_12 dX0_steps_13 dX0_steps_15 dX0_steps_18 (fun x hx => (hne x hx).elim) (by decide) (by decide) (by decide) (by decide) hlocks (fun t hvm h1 h2 => ⟨(), trivial, ⟨Or.inl ⟨rfl, (by simp only [f_steps, c_1, ↓reduceIte])⟩, (thr_B hP hK hD hS hvm h1 h2).1⟩, (thr_B hP hK hD hS hvm h1 h2).2⟩) hS.2.2 (by decide) (by decide)
  · skip
    refine lv_iload_n hx hb dX0_steps_4 rfl (lv_at hl 1 rfl) ?_
    refine lv_iconst (v := 1) hx hb dX0_steps_5 (by decide) ?_
    refine lv_icmp_le (tgt := 19) hx hb dX0_steps_6 (by decide) (fun c_6 => ?_) (fun c_6 => ?_)
    · skip
      refine lv_aload_n hx hb dX0_steps_19 rfl (lv_at hl 0 rfl) ?_
      have hFc := fre hD hS hA
      refine vx_callv (vx_runV (As := []) (rest := []) ⟨hx, hb, hml, hown, hts⟩ (c_X0_needRun l hl9 dC dI c0 a _ n wk sd bt lt lo rk ad vl bg cm sp gd rf ct rd sm js sn wl ) (cwV 0 hts gX0_steps_X0_needRun rfl rfl rfl (by decide +kernel) ⟨(Nat.le_of_ble_eq_true rfl), (Nat.le_of_ble_eq_true rfl)⟩) ⟨PX_blind, va_recv hK hP (ci := 0) (q0 := 0) rfl rfl, PX_give hP hK hD hE hS hFc⟩ rfl rfl hl.1 rfl (lv_room (Nat.le_of_ble_eq_true rfl)) dX0_steps_20 ⟨by decide, by decide⟩) hS (fun q _ h => hFc q h) hFc (fun q _ h => hFc q h) (fun E ce q9 u t H1 locs ht hvm hw hB hz1 hk1 hS hce hcv hcl => ?_) (fun u t H1 locs ht hvm hw hB hz1 hk1 hS => ?_)
      · skip
        obtain ⟨hEE, hB⟩ := hB
        obtain ⟨hP, hD⟩ := PX_take ht hFc hB
        exact vx_out (E := E) (fun x hx => (hne x hx).elim) hlocks hce hcv hcl (fun t ht ha => ⟨(), trivial, ⟨Or.inr ⟨hEE.1, (by simp only [f_steps, c_1, c_6, hEE.2, ↓reduceIte])⟩, by rw [ht]; exact hP, va_K.moved ha hK, hD⟩, hS.F ht⟩) hS.2.2 (by decide) (by decide)
      · skip
        obtain ⟨hr1, rfl⟩ := hw
        obtain ⟨hP, hD⟩ := PX_take ht hFc hB
        generalize H1 = H at hP hS ⊢
        have hP : va_P (dC, dI) vwCl (wX c0 a (n, wk, sd, bt, lt, lo, rk, ad, vl, bg, cm, sp, gd, rf, ct, rd, sm, js, sn, wl)) H := hP
        have hD : va_D A (wX c0 a (n, wk, sd, bt, lt, lo, rk, ad, vl, bg, cm, sp, gd, rf, ct, rd, sm, js, sn, wl)) := hD
        refine lv_iload_n hx hb dX0_steps_23 rfl (lv_at hl 1 rfl) ?_
        refine lv_if_ne (tgt := 37) hx hb dX0_steps_24 (by decide) (fun c_24 => ?_) (fun c_24 => ?_)
        · skip
          refine lv_aload_n hx hb dX0_steps_37 rfl (lv_at hl 0 rfl) ?_
          refine va_get (D := (dC, dI)) (ci := 0) (v := .ref (a 3)) (C := RX0) (T := TX0) (N := 6) hx hb hts inX0 hown hK hP 0 rfl rfl 2 (by decide) (hE.t m_145 rfl) (fun _ h9 => h9) rfl dX0_steps_38 ?_
          refine va_getN (D := (dC, dI)) (ci := 3) (v := .int wl) (C := RX3) (T := TX3) (N := 8) hx hb hts inX3 hown hK hP 3 rfl rfl 7 (by decide) (hE.t m_125 rfl) (fun _ h9 => h9) rfl dX0_steps_41 ?_
          refine vx_ret ?_
          refine W.widen (k := 2) (n := 12) (by omega) (by omega) ?_
          exact W.iret (v := wl) hx hb hr (fun t ht hW => ⟨⟨wl, (n, wk, sd, bt, lt, lo, rk, ad, vl, bg, cm, sp, gd, rf, ct, rd, sm, js, sn, wl), rfl, (by simp only [f_steps, c_1, c_6, c_24, hr1, ↓reduceIte]), by rw [ht]; exact hP, va_K.moved hW.alike hK, hD⟩, hS.F ht⟩) hS.2.2 dX0_steps_44
        · skip
          refine lv_aload_n hx hb dX0_steps_27 rfl (lv_at hl 0 rfl) ?_
          refine va_get (D := (dC, dI)) (ci := 0) (v := .ref (a 3)) (C := RX0) (T := TX0) (N := 6) hx hb hts inX0 hown hK hP 0 rfl rfl 2 (by decide) (hE.t m_145 rfl) (fun _ h9 => h9) rfl dX0_steps_28 ?_
          refine va_getN (D := (dC, dI)) (ci := 3) (v := .int sn) (C := RX3) (T := TX3) (N := 8) hx hb hts inX3 hown hK hP 3 rfl rfl 6 (by decide) (hE.t m_124 rfl) (fun _ h9 => h9) rfl dX0_steps_31 ?_
          refine lv_goto (tgt := 44) hx hb dX0_steps_34 (by decide) ?_
          refine vx_ret ?_
          refine W.widen (k := 2) (n := 12) (by omega) (by omega) ?_
          exact W.iret (v := sn) hx hb hr (fun t ht hW => ⟨⟨sn, (n, wk, sd, bt, lt, lo, rk, ad, vl, bg, cm, sp, gd, rf, ct, rd, sm, js, sn, wl), rfl, (by simp only [f_steps, c_1, c_6, eq_true c_24, hr1, ↓reduceIte]), by rw [ht]; exact hP, va_K.moved hW.alike hK, hD⟩, hS.F ht⟩) hS.2.2 dX0_steps_44
    · skip
      obtain ⟨sa, hsa⟩ := hE.st (RX0, 144, "what is not 0 or 1") (by decide)
      exact vx_throwS (own := RX0) (cls := "java/lang/IndexOutOfBoundsException") (text := "what is not 0 or 1") (names := ["java/lang/RuntimeException", "java/lang/Exception"]) (ik := 80) (is := 144) (ic := 84) hx hb hl9 hown (by decide +kernel) (by decide +kernel) (hE.t m_178 rfl) (hE.t m_31 rfl) hsa (vx_hat (L := (vx_atS RX0 84 "java/lang/IndexOutOfBoundsException" ["java/lang/RuntimeException", "java/lang/Exception"])) (B := [.castable "java/lang/IndexOutOfBoundsException" "java/lang/IndexOutOfBoundsException", .declares ⟨"java/lang/RuntimeException", "<init>", "(Ljava/lang/String;)V"⟩, .declares ⟨"java/lang/Exception", "<init>", "(Ljava/lang/String;)V"⟩, .declares ⟨"java/lang/Throwable", "<init>", "(Ljava/lang/String;)V"⟩]) (fun w hw => hts w (List.mem_filter.mpr ⟨at_X0_IndexOutOfBoundsException w hw, (List.mem_filter.mp hw).2⟩)) ab_X0_IndexOutOfBoundsException (vx_c (hE.t m_180 rfl) (vx_c (hE.t m_182 rfl) (vx_c (hE.t m_184 rfl) (vx_c (hE.t m_186 rfl) vx_n))))) gd_X0_IndexOutOfBoundsException hE.zu hE.zn hS (by rw [hml]; exact hl.1) dX0_steps_9 dX0_steps_12 dX0_steps_13 dX0_steps_15 dX0_steps_18 (fun x hx => (hne x hx).elim) (by decide) (by decide) (by decide) (by decide) hlocks (fun t hvm h1 h2 => ⟨(), trivial, ⟨Or.inl ⟨rfl, (by simp only [f_steps, c_1, c_6, ↓reduceIte])⟩, (thr_B hP hK hD hS hvm h1 h2).1⟩, (thr_B hP hK hD hS hvm h1 h2).2⟩) hS.2.2 (by decide) (by decide)
set_option maxHeartbeats 4000000 in
set_option maxRecDepth 100000 in
/-- count -/
theorem c_X0_count (l : Launch) (hl9 : l.stackTraces = false) (dC : Nat → ClassId) (dI : Nat → Nat → Nat) (c0 : ClassId) (a : Nat → Nat) (sz : Nat) (n : Nat) (wk sd bt lt lo rk ad vl bg cm : Nat → Int32) (sp gd rf : Int32) (ct : Nat) (rd : Int32) (sm : Int64) (js sn wl : Int32) (k : Int32) (hn : n ≤ 40) : vx_Met l yX0_count wsX0_count ({ frames := 7, cells := 1, slots := 6, locals := 103 }) (va_Pc [.ref (a 0), .int k] (PX dC dI c0 a (n, wk, sd, bt, lt, lo, rk, ad, vl, bg, cm, sp, gd, rf, ct, rd, sm, js, sn, wl) sz)) (va_Qi (fun (r : Int32) (u : xS) => f_count (n, wk, sd, bt, lt, lo, rk, ad, vl, bg, cm, sp, gd, rf, ct, rd, sm, js, sn, wl) k = (0, r.toInt64, u)) (BX dC dI c0 a (va_A (wX c0 a (n, wk, sd, bt, lt, lo, rk, ad, vl, bg, cm, sp, gd, rf, ct, rd, sm, js, sn, wl)) sz)) (va_A (wX c0 a (n, wk, sd, bt, lt, lo, rk, ad, vl, bg, cm, sp, gd, rf, ct, rd, sm, js, sn, wl)) sz)) (vx_X (fun _ : Unit => True) (fun (E : String) (_ : Unit) t => ((E = "java/lang/IndexOutOfBoundsException" ∧ f_count (n, wk, sd, bt, lt, lo, rk, ad, vl, bg, cm, sp, gd, rf, ct, rd, sm, js, sn, wl) k = (1, 0, (n, wk, sd, bt, lt, lo, rk, ad, vl, bg, cm, sp, gd, rf, ct, rd, sm, js, sn, wl)))) ∧ BX dC dI c0 a (va_A (wX c0 a (n, wk, sd, bt, lt, lo, rk, ad, vl, bg, cm, sp, gd, rf, ct, rd, sm, js, sn, wl)) sz) (n, wk, sd, bt, lt, lo, rk, ad, vl, bg, cm, sp, gd, rf, ct, rd, sm, js, sn, wl) t) (va_A (wX c0 a (n, wk, sd, bt, lt, lo, rk, ad, vl, bg, cm, sp, gd, rf, ct, rd, sm, js, sn, wl)) sz)) 1 6 (va_A (wX c0 a (n, wk, sd, bt, lt, lo, rk, ad, vl, bg, cm, sp, gd, rf, ct, rd, sm, js, sn, wl)) sz) := by
  refine vx_ofW (cc := cX0_count) (maxL := 2) (ret := (some .int)) (by decide) rfl ?_
  intro p e s m args below meth c s₁ B hml hne hv
  obtain ⟨rfl, hsz, hP, hK, hD0, hE⟩ := hv
  have hx := B.exec
  have hb := B.bytes
  have hr := B.returns
  have hown : s.vm.findClass RX0 = some m.cls := findClass_of_methodNamed B.named
  have hlocks := B.notSynchronized
  subst hsz
  have hD := hD0.self (sz := s.heap.size)
  generalize hAe : va_A (wX c0 a (n, wk, sd, bt, lt, lo, rk, ad, vl, bg, cm, sp, gd, rf, ct, rd, sm, js, sn, wl)) s.heap.size = A at hD hE ⊢
  have hts := hE.ts (args := ([.ref (a 0), .int k] : List Value).toArray)
  have hA : ∀ q : Nat, s.heap.size ≤ q → A q := fun q h => by rw [← hAe]; exact Or.inr h
  have hS : va_S A s.heap s.heap [] := va_S.rf
  have hP : va_P (dC, dI) vwCl (wX c0 a (n, wk, sd, bt, lt, lo, rk, ad, vl, bg, cm, sp, gd, rf, ct, rd, sm, js, sn, wl)) s.heap := hP
  have hl := lv_entry ([.ref (a 0), .int k]) (n := 2) (Nat.le_of_ble_eq_true rfl)
  rw [lg_entry_eq]
  generalize (lg_sl ([.ref (a 0), .int k]) ++ List.replicate (2 - (lg_sl ([.ref (a 0), .int k])).length) Slot.unset).toArray = ls at hl ⊢
  have hl : lv_has ls 2 [(0, .ref (a 0)), (1, .int k)] := hl
  refine lv_iload_n hx hb dX0_count_0 rfl (lv_at hl 1 rfl) ?_
  by_cases hlo_1 : k.toInt < 0 ∨ 3 < k.toInt
  · skip
    refine lv_tableOut (tgt := 58) hx hb dX0_count_1 hlo_1 (by decide) ?_
    obtain ⟨sa, hsa⟩ := hE.st (RX0, 149, "what is not 0 .. 3") (by decide)
    exact vx_throwS (own := RX0) (cls := "java/lang/IndexOutOfBoundsException") (text := "what is not 0 .. 3") (names := ["java/lang/RuntimeException", "java/lang/Exception"]) (ik := 80) (is := 149) (ic := 84) hx hb hl9 hown (by decide +kernel) (by decide +kernel) (hE.t m_178 rfl) (hE.t m_31 rfl) hsa (vx_hat (L := (vx_atS RX0 84 "java/lang/IndexOutOfBoundsException" ["java/lang/RuntimeException", "java/lang/Exception"])) (B := [.castable "java/lang/IndexOutOfBoundsException" "java/lang/IndexOutOfBoundsException", .declares ⟨"java/lang/RuntimeException", "<init>", "(Ljava/lang/String;)V"⟩, .declares ⟨"java/lang/Exception", "<init>", "(Ljava/lang/String;)V"⟩, .declares ⟨"java/lang/Throwable", "<init>", "(Ljava/lang/String;)V"⟩]) (fun w hw => hts w (List.mem_filter.mpr ⟨at_X0_IndexOutOfBoundsException w hw, (List.mem_filter.mp hw).2⟩)) ab_X0_IndexOutOfBoundsException (vx_c (hE.t m_180 rfl) (vx_c (hE.t m_182 rfl) (vx_c (hE.t m_184 rfl) (vx_c (hE.t m_186 rfl) vx_n))))) gd_X0_IndexOutOfBoundsException hE.zu hE.zn hS (by rw [hml]; exact hl.1) dX0_count_58 dX0_count_61 dX0_count_62 dX0_count_64 dX0_count_67 (fun x hx => (hne x hx).elim) (by decide) (by decide) (by decide) (by decide) hlocks (fun t hvm h1 h2 => ⟨(), trivial, ⟨⟨rfl, (by obtain ⟨q0, q1, q2, q3⟩ := ne4 hlo_1; simp only [f_count, q0, q1, q2, q3, ↓reduceIte])⟩, (thr_B hP hK hD hS hvm h1 h2).1⟩, (thr_B hP hK hD hS hvm h1 h2).2⟩) hS.2.2 (by decide) (by decide)
  have hv_1 : k = 0 ∨ k = 1 ∨ k = 2 ∨ k = 3 := by
    have hh := hlo_1
    exact sw4 _ hh
  rcases hv_1 with hv_1 | hv_1 | hv_1 | hv_1
  · skip
    refine lv_tableIn (tgt := 32) (off := 31) hx hb dX0_count_1 (by rw [hv_1]; decide) (by rw [hv_1]; decide) (by rw [hv_1]; rfl) (by decide) ?_
    refine lv_aload_n hx hb dX0_count_32 rfl (lv_at hl 0 rfl) ?_
    refine va_get (D := (dC, dI)) (ci := 0) (v := .ref (a 1)) (C := RX0) (T := TX0) (N := 6) hx hb hts inX0 hown hK hP 0 rfl rfl 0 (by decide) (hE.t m_143 rfl) (fun _ h9 => h9) rfl dX0_count_33 ?_
    refine va_getN (D := (dC, dI)) (ci := 1) (v := .int (nI n)) (C := RX1) (T := TX1) (N := 6) hx hb hts inX1 hown hK hP 1 rfl rfl 0 (by decide) (hE.t m_59 rfl) (fun _ h9 => h9) rfl dX0_count_36 ?_
    refine vx_ret ?_
    refine W.widen (k := 1) (n := 6) (by omega) (by omega) ?_
    exact W.iret (v := nI n) hx hb hr (fun t ht hW => ⟨⟨nI n, (n, wk, sd, bt, lt, lo, rk, ad, vl, bg, cm, sp, gd, rf, ct, rd, sm, js, sn, wl), rfl, (by rw [hv_1]; first | rfl | (simp [f_count])), by rw [ht]; exact hP, va_K.moved hW.alike hK, hD⟩, hS.F ht⟩) hS.2.2 dX0_count_39
  · skip
    refine lv_tableIn (tgt := 40) (off := 39) hx hb dX0_count_1 (by rw [hv_1]; decide) (by rw [hv_1]; decide) (by rw [hv_1]; rfl) (by decide) ?_
    refine lv_aload_n hx hb dX0_count_40 rfl (lv_at hl 0 rfl) ?_
    refine va_get (D := (dC, dI)) (ci := 0) (v := .ref (a 2)) (C := RX0) (T := TX0) (N := 6) hx hb hts inX0 hown hK hP 0 rfl rfl 1 (by decide) (hE.t m_144 rfl) (fun _ h9 => h9) rfl dX0_count_41 ?_
    refine va_getN (D := (dC, dI)) (ci := 2) (v := .int (nI ct)) (C := RX2) (T := TX2) (N := 3) hx hb hts inX2 hown hK hP 2 rfl rfl 2 (by decide) (hE.t m_97 rfl) (fun _ h9 => h9) rfl dX0_count_44 ?_
    refine vx_ret ?_
    refine W.widen (k := 1) (n := 6) (by omega) (by omega) ?_
    exact W.iret (v := nI ct) hx hb hr (fun t ht hW => ⟨⟨nI ct, (n, wk, sd, bt, lt, lo, rk, ad, vl, bg, cm, sp, gd, rf, ct, rd, sm, js, sn, wl), rfl, (by rw [hv_1]; first | rfl | (simp [f_count])), by rw [ht]; exact hP, va_K.moved hW.alike hK, hD⟩, hS.F ht⟩) hS.2.2 dX0_count_47
  · skip
    refine lv_tableIn (tgt := 48) (off := 47) hx hb dX0_count_1 (by rw [hv_1]; decide) (by rw [hv_1]; decide) (by rw [hv_1]; rfl) (by decide) ?_
    refine lv_aload_n hx hb dX0_count_48 rfl (lv_at hl 0 rfl) ?_
    refine va_get (D := (dC, dI)) (ci := 0) (v := .int gd) (C := RX0) (T := TX0) (N := 6) hx hb hts inX0 hown hK hP 0 rfl rfl 4 (by decide) (hE.t m_147 rfl) (fun _ h9 => h9) rfl dX0_count_49 ?_
    refine vx_ret ?_
    refine W.widen (k := 1) (n := 6) (by omega) (by omega) ?_
    exact W.iret (v := gd) hx hb hr (fun t ht hW => ⟨⟨gd, (n, wk, sd, bt, lt, lo, rk, ad, vl, bg, cm, sp, gd, rf, ct, rd, sm, js, sn, wl), rfl, (by rw [hv_1]; first | rfl | (simp [f_count])), by rw [ht]; exact hP, va_K.moved hW.alike hK, hD⟩, hS.F ht⟩) hS.2.2 dX0_count_52
  · skip
    refine lv_tableIn (tgt := 53) (off := 52) hx hb dX0_count_1 (by rw [hv_1]; decide) (by rw [hv_1]; decide) (by rw [hv_1]; rfl) (by decide) ?_
    refine lv_aload_n hx hb dX0_count_53 rfl (lv_at hl 0 rfl) ?_
    refine va_get (D := (dC, dI)) (ci := 0) (v := .int rf) (C := RX0) (T := TX0) (N := 6) hx hb hts inX0 hown hK hP 0 rfl rfl 5 (by decide) (hE.t m_148 rfl) (fun _ h9 => h9) rfl dX0_count_54 ?_
    refine vx_ret ?_
    refine W.widen (k := 1) (n := 6) (by omega) (by omega) ?_
    exact W.iret (v := rf) hx hb hr (fun t ht hW => ⟨⟨rf, (n, wk, sd, bt, lt, lo, rk, ad, vl, bg, cm, sp, gd, rf, ct, rd, sm, js, sn, wl), rfl, (by rw [hv_1]; first | rfl | (simp [f_count])), by rw [ht]; exact hP, va_K.moved hW.alike hK, hD⟩, hS.F ht⟩) hS.2.2 dX0_count_57
