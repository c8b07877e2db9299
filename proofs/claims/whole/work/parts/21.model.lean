set_option maxHeartbeats 4000000 in
set_option maxRecDepth 100000 in
/-- thrown() -/
theorem c_M0_thrown (l : Launch) (dC : Nat → ClassId) (dI : Nat → Nat → Nat) (c0 : ClassId) (a : Nat → Nat) (sz : Nat) (th : Int32) (n : Nat) (wk sd bt lt lo : Nat → Int32) (ct : Nat) (rk ad : Nat → Int32) (sp gd rf : Int32) (sm : Int64) (js sn wl : Int32) (vl bg cm : Nat → Int32) : Met l yM0_thrown wsM0_thrown ({ frames := 0, cells := 0, slots := 0, locals := 0 }) (va_Pc [.ref (a 0)] (PM dC dI c0 a (th, n, wk, sd, bt, lt, lo, ct, rk, ad, sp, gd, rf, sm, js, sn, wl, vl, bg, cm) sz)) (va_Qi (fun (r : Int32) (u : mS) => u = (th, n, wk, sd, bt, lt, lo, ct, rk, ad, sp, gd, rf, sm, js, sn, wl, vl, bg, cm) ∧ r = th) (BM dC dI c0 a (va_A (wM c0 a (th, n, wk, sd, bt, lt, lo, ct, rk, ad, sp, gd, rf, sm, js, sn, wl, vl, bg, cm)) sz)) (va_A (wM c0 a (th, n, wk, sd, bt, lt, lo, ct, rk, ad, sp, gd, rf, sm, js, sn, wl, vl, bg, cm)) sz)) 0 0 (va_A (wM c0 a (th, n, wk, sd, bt, lt, lo, ct, rk, ad, sp, gd, rf, sm, js, sn, wl, vl, bg, cm)) sz) := by
  refine Met.ofW (cc := cM0_thrown) (maxL := 1) (ret := (some .int)) (by decide) rfl ?_
  intro p e s m args below meth c s₁ B hml hv
  obtain ⟨rfl, hsz, hP, hK, hD0, hE⟩ := hv
  have hx := B.exec
  have hb := B.bytes
  have hr := B.returns
  have hown : s.vm.findClass RM0 = some m.cls := findClass_of_methodNamed B.named
  have hlocks := B.notSynchronized
  subst hsz
  have hD := hD0.self (sz := s.heap.size)
  generalize hAe : va_A (wM c0 a (th, n, wk, sd, bt, lt, lo, ct, rk, ad, sp, gd, rf, sm, js, sn, wl, vl, bg, cm)) s.heap.size = A at hD hE ⊢
  have hts := hE.ts (args := ([.ref (a 0)] : List Value).toArray)
  have hA : ∀ q : Nat, s.heap.size ≤ q → A q := fun q h => by rw [← hAe]; exact Or.inr h
  have hS : va_S A s.heap s.heap [] := va_S.rf
  have hP : va_P (dC, dI) vwCl (wM c0 a (th, n, wk, sd, bt, lt, lo, ct, rk, ad, sp, gd, rf, sm, js, sn, wl, vl, bg, cm)) s.heap := hP
  have hl := lv_entry ([.ref (a 0)]) (n := 1) (Nat.le_of_ble_eq_true rfl)
  rw [lg_entry_eq]
  generalize (lg_sl ([.ref (a 0)]) ++ List.replicate (1 - (lg_sl ([.ref (a 0)])).length) Slot.unset).toArray = ls at hl ⊢
  have hl : lv_has ls 1 [(0, .ref (a 0))] := hl
  refine lv_aload_n hx hb dM0_thrown_0 rfl (lv_at hl 0 rfl) ?_
  refine va_get (D := (dC, dI)) (ci := 4) (v := .int th) (C := RM0) (T := TM0) (N := 20) hx hb hts inM0 hown hK hP 0 rfl rfl 0 (by decide) (hE.t m_427 rfl) (fun _ h9 => h9) rfl dM0_thrown_1 ?_
  exact W.iret (v := th) hx hb hr (fun t ht hW => ⟨⟨th, (th, n, wk, sd, bt, lt, lo, ct, rk, ad, sp, gd, rf, sm, js, sn, wl, vl, bg, cm), rfl, ⟨rfl, rfl⟩, by rw [ht]; exact hP, va_K.moved hW.alike hK, hD⟩, hS.F ht⟩) hS.2.2 dM0_thrown_4
set_option maxHeartbeats 4000000 in
set_option maxRecDepth 100000 in
/-- refuse(w) -/
theorem c_M0_refuse (l : Launch) (dC : Nat → ClassId) (dI : Nat → Nat → Nat) (c0 : ClassId) (a : Nat → Nat) (sz : Nat) (th : Int32) (n : Nat) (wk sd bt lt lo : Nat → Int32) (ct : Nat) (rk ad : Nat → Int32) (sp gd rf : Int32) (sm : Int64) (js sn wl : Int32) (vl bg cm : Nat → Int32) (w : Int32) : Met l yM0_refuse wsM0_refuse ({ frames := 0, cells := 0, slots := 0, locals := 0 }) (va_Pc [.ref (a 0), .int w] (PM dC dI c0 a (th, n, wk, sd, bt, lt, lo, ct, rk, ad, sp, gd, rf, sm, js, sn, wl, vl, bg, cm) sz)) (va_Qi (fun (r : Int32) (u : mS) => u = (w, n, wk, sd, bt, lt, lo, ct, rk, ad, sp, gd, rf, sm, js, sn, wl, vl, bg, cm) ∧ r = 0) (BM dC dI c0 a (va_A (wM c0 a (th, n, wk, sd, bt, lt, lo, ct, rk, ad, sp, gd, rf, sm, js, sn, wl, vl, bg, cm)) sz)) (va_A (wM c0 a (th, n, wk, sd, bt, lt, lo, ct, rk, ad, sp, gd, rf, sm, js, sn, wl, vl, bg, cm)) sz)) 0 0 (va_A (wM c0 a (th, n, wk, sd, bt, lt, lo, ct, rk, ad, sp, gd, rf, sm, js, sn, wl, vl, bg, cm)) sz) := by
  refine Met.ofW (cc := cM0_refuse) (maxL := 2) (ret := (some .int)) (by decide) rfl ?_
  intro p e s m args below meth c s₁ B hml hv
  obtain ⟨rfl, hsz, hP, hK, hD0, hE⟩ := hv
  have hx := B.exec
  have hb := B.bytes
  have hr := B.returns
  have hown : s.vm.findClass RM0 = some m.cls := findClass_of_methodNamed B.named
  have hlocks := B.notSynchronized
  subst hsz
  have hD := hD0.self (sz := s.heap.size)
  generalize hAe : va_A (wM c0 a (th, n, wk, sd, bt, lt, lo, ct, rk, ad, sp, gd, rf, sm, js, sn, wl, vl, bg, cm)) s.heap.size = A at hD hE ⊢
  have hts := hE.ts (args := ([.ref (a 0), .int w] : List Value).toArray)
  have hA : ∀ q : Nat, s.heap.size ≤ q → A q := fun q h => by rw [← hAe]; exact Or.inr h
  have hS : va_S A s.heap s.heap [] := va_S.rf
  have hP : va_P (dC, dI) vwCl (wM c0 a (th, n, wk, sd, bt, lt, lo, ct, rk, ad, sp, gd, rf, sm, js, sn, wl, vl, bg, cm)) s.heap := hP
  have hl := lv_entry ([.ref (a 0), .int w]) (n := 2) (Nat.le_of_ble_eq_true rfl)
  rw [lg_entry_eq]
  generalize (lg_sl ([.ref (a 0), .int w]) ++ List.replicate (2 - (lg_sl ([.ref (a 0), .int w])).length) Slot.unset).toArray = ls at hl ⊢
  have hl : lv_has ls 2 [(0, .ref (a 0)), (1, .int w)] := hl
  refine lv_aload_n hx hb dM0_refuse_0 rfl (lv_at hl 0 rfl) ?_
  refine lv_iload_n hx hb dM0_refuse_1 rfl (lv_at hl 1 rfl) ?_
  refine va_put (D := (dC, dI)) (ci := 4) (v := .int w) (ty := .int) (C := RM0) (T := TM0) (N := 20) hx hb hts inM0 tyM0 tyM0_ok nmM0 hown hK hP hD hS 0 rfl rfl 0 (by decide) (hE.t m_427 rfl) (fun _ h9 => h9) rfl (by decide +kernel) rfl rfl (Nat.le_of_ble_eq_true rfl) dM0_refuse_2 (fun H locs hP hD hS => ?_)
  have hP : va_P (dC, dI) vwCl (wM c0 a (w, n, wk, sd, bt, lt, lo, ct, rk, ad, sp, gd, rf, sm, js, sn, wl, vl, bg, cm)) H := hP
  have hD : va_D A (wM c0 a (w, n, wk, sd, bt, lt, lo, ct, rk, ad, sp, gd, rf, sm, js, sn, wl, vl, bg, cm)) := hD
  refine lv_iconst (v := 0) hx hb dM0_refuse_5 (by decide) ?_
  exact W.iret (v := 0) hx hb hr (fun t ht hW => ⟨⟨0, (w, n, wk, sd, bt, lt, lo, ct, rk, ad, sp, gd, rf, sm, js, sn, wl, vl, bg, cm), rfl, ⟨rfl, rfl⟩, by rw [ht]; exact hP, va_K.moved hW.alike hK, hD⟩, hS.F ht⟩) hS.2.2 dM0_refuse_6
set_option maxHeartbeats 4000000 in
set_option maxRecDepth 100000 in
/-- isShare(k) -/
theorem c_M0_isShare (l : Launch) (dC : Nat → ClassId) (dI : Nat → Nat → Nat) (c0 : ClassId) (a : Nat → Nat) (sz : Nat) (th : Int32) (n : Nat) (wk sd bt lt lo : Nat → Int32) (ct : Nat) (rk ad : Nat → Int32) (sp gd rf : Int32) (sm : Int64) (js sn wl : Int32) (vl bg cm : Nat → Int32) (k : Int32) : Met l yM0_isShare wsM0_isShare ({ frames := 0, cells := 0, slots := 0, locals := 0 }) (va_Pc [.ref (a 0), .int k] (PM dC dI c0 a (th, n, wk, sd, bt, lt, lo, ct, rk, ad, sp, gd, rf, sm, js, sn, wl, vl, bg, cm) sz)) (va_Qi (fun (r : Int32) (u : mS) => u = (th, n, wk, sd, bt, lt, lo, ct, rk, ad, sp, gd, rf, sm, js, sn, wl, vl, bg, cm) ∧ r = isS n k) (BM dC dI c0 a (va_A (wM c0 a (th, n, wk, sd, bt, lt, lo, ct, rk, ad, sp, gd, rf, sm, js, sn, wl, vl, bg, cm)) sz)) (va_A (wM c0 a (th, n, wk, sd, bt, lt, lo, ct, rk, ad, sp, gd, rf, sm, js, sn, wl, vl, bg, cm)) sz)) 0 0 (va_A (wM c0 a (th, n, wk, sd, bt, lt, lo, ct, rk, ad, sp, gd, rf, sm, js, sn, wl, vl, bg, cm)) sz) := by
  refine Met.ofW (cc := cM0_isShare) (maxL := 2) (ret := (some .boolean)) (by decide) rfl ?_
  intro p e s m args below meth c s₁ B hml hv
  obtain ⟨rfl, hsz, hP, hK, hD0, hE⟩ := hv
  have hx := B.exec
  have hb := B.bytes
  have hr := B.returns
  have hown : s.vm.findClass RM0 = some m.cls := findClass_of_methodNamed B.named
  have hlocks := B.notSynchronized
  subst hsz
  have hD := hD0.self (sz := s.heap.size)
  generalize hAe : va_A (wM c0 a (th, n, wk, sd, bt, lt, lo, ct, rk, ad, sp, gd, rf, sm, js, sn, wl, vl, bg, cm)) s.heap.size = A at hD hE ⊢
  have hts := hE.ts (args := ([.ref (a 0), .int k] : List Value).toArray)
  have hA : ∀ q : Nat, s.heap.size ≤ q → A q := fun q h => by rw [← hAe]; exact Or.inr h
  have hS : va_S A s.heap s.heap [] := va_S.rf
  have hP : va_P (dC, dI) vwCl (wM c0 a (th, n, wk, sd, bt, lt, lo, ct, rk, ad, sp, gd, rf, sm, js, sn, wl, vl, bg, cm)) s.heap := hP
  have hl := lv_entry ([.ref (a 0), .int k]) (n := 2) (Nat.le_of_ble_eq_true rfl)
  rw [lg_entry_eq]
  generalize (lg_sl ([.ref (a 0), .int k]) ++ List.replicate (2 - (lg_sl ([.ref (a 0), .int k])).length) Slot.unset).toArray = ls at hl ⊢
  have hl : lv_has ls 2 [(0, .ref (a 0)), (1, .int k)] := hl
  refine lv_iload_n hx hb dM0_isShare_0 rfl (lv_at hl 1 rfl) ?_
  refine lv_if_lt (tgt := 16) hx hb dM0_isShare_1 (by decide) (fun c_1 => ?_) (fun c_1 => ?_)
  · skip
    refine lv_iconst (v := 0) hx hb dM0_isShare_16 (by decide) ?_
    exact W.zret (v := 0) hx hb hr rfl (fun t ht hW => ⟨⟨0, (th, n, wk, sd, bt, lt, lo, ct, rk, ad, sp, gd, rf, sm, js, sn, wl, vl, bg, cm), rfl, ⟨rfl, (by simp only [isS, c_1, ↓reduceIte])⟩, by rw [ht]; exact hP, va_K.moved hW.alike hK, hD⟩, hS.F ht⟩) hS.2.2 dM0_isShare_17
  · skip
    refine lv_iload_n hx hb dM0_isShare_4 rfl (lv_at hl 1 rfl) ?_
    refine lv_aload_n hx hb dM0_isShare_5 rfl (lv_at hl 0 rfl) ?_
    refine va_get (D := (dC, dI)) (ci := 4) (v := .int (nI n)) (C := RM0) (T := TM0) (N := 20) hx hb hts inM0 hown hK hP 0 rfl rfl 1 (by decide) (hE.t m_428 rfl) (fun _ h9 => h9) rfl dM0_isShare_6 ?_
    refine lv_icmp_ge (tgt := 16) hx hb dM0_isShare_9 (by decide) (fun c_9 => ?_) (fun c_9 => ?_)
    · skip
      refine lv_iconst (v := 0) hx hb dM0_isShare_16 (by decide) ?_
      exact W.zret (v := 0) hx hb hr rfl (fun t ht hW => ⟨⟨0, (th, n, wk, sd, bt, lt, lo, ct, rk, ad, sp, gd, rf, sm, js, sn, wl, vl, bg, cm), rfl, ⟨rfl, (by simp only [isS, c_1, c_9, ↓reduceIte])⟩, by rw [ht]; exact hP, va_K.moved hW.alike hK, hD⟩, hS.F ht⟩) hS.2.2 dM0_isShare_17
    · skip
      refine lv_iconst (v := 1) hx hb dM0_isShare_12 (by decide) ?_
      refine lv_goto (tgt := 17) hx hb dM0_isShare_13 (by decide) ?_
      exact W.zret (v := 1) hx hb hr rfl (fun t ht hW => ⟨⟨1, (th, n, wk, sd, bt, lt, lo, ct, rk, ad, sp, gd, rf, sm, js, sn, wl, vl, bg, cm), rfl, ⟨rfl, (by simp only [isS, c_1, c_9, ↓reduceIte])⟩, by rw [ht]; exact hP, va_K.moved hW.alike hK, hD⟩, hS.F ht⟩) hS.2.2 dM0_isShare_17
set_option maxHeartbeats 4000000 in
set_option maxRecDepth 100000 in
/-- in(v, x, y) -/
theorem c_M0_in (l : Launch) (dC : Nat → ClassId) (dI : Nat → Nat → Nat) (c0 : ClassId) (a : Nat → Nat) (sz : Nat) (th : Int32) (n : Nat) (wk sd bt lt lo : Nat → Int32) (ct : Nat) (rk ad : Nat → Int32) (sp gd rf : Int32) (sm : Int64) (js sn wl : Int32) (vl bg cm : Nat → Int32) (v : Int32) (x : Int32) (y : Int32) : Met l yM0_in wsM0_in ({ frames := 0, cells := 0, slots := 0, locals := 0 }) (va_Pc [.int v, .int x, .int y] (PM dC dI c0 a (th, n, wk, sd, bt, lt, lo, ct, rk, ad, sp, gd, rf, sm, js, sn, wl, vl, bg, cm) sz)) (va_Qi (fun (r : Int32) (u : mS) => u = (th, n, wk, sd, bt, lt, lo, ct, rk, ad, sp, gd, rf, sm, js, sn, wl, vl, bg, cm) ∧ r = inn v x y) (BM dC dI c0 a (va_A (wM c0 a (th, n, wk, sd, bt, lt, lo, ct, rk, ad, sp, gd, rf, sm, js, sn, wl, vl, bg, cm)) sz)) (va_A (wM c0 a (th, n, wk, sd, bt, lt, lo, ct, rk, ad, sp, gd, rf, sm, js, sn, wl, vl, bg, cm)) sz)) 0 0 (va_A (wM c0 a (th, n, wk, sd, bt, lt, lo, ct, rk, ad, sp, gd, rf, sm, js, sn, wl, vl, bg, cm)) sz) := by
  refine Met.ofW (cc := cM0_in) (maxL := 3) (ret := (some .boolean)) (by decide) rfl ?_
  intro p e s m args below meth c s₁ B hml hv
  obtain ⟨rfl, hsz, hP, hK, hD0, hE⟩ := hv
  have hx := B.exec
  have hb := B.bytes
  have hr := B.returns
  have hown : s.vm.findClass RM0 = some m.cls := findClass_of_methodNamed B.named
  have hlocks := B.notSynchronized
  subst hsz
  have hD := hD0.self (sz := s.heap.size)
  generalize hAe : va_A (wM c0 a (th, n, wk, sd, bt, lt, lo, ct, rk, ad, sp, gd, rf, sm, js, sn, wl, vl, bg, cm)) s.heap.size = A at hD hE ⊢
  have hts := hE.ts (args := ([.int v, .int x, .int y] : List Value).toArray)
  have hA : ∀ q : Nat, s.heap.size ≤ q → A q := fun q h => by rw [← hAe]; exact Or.inr h
  have hS : va_S A s.heap s.heap [] := va_S.rf
  have hP : va_P (dC, dI) vwCl (wM c0 a (th, n, wk, sd, bt, lt, lo, ct, rk, ad, sp, gd, rf, sm, js, sn, wl, vl, bg, cm)) s.heap := hP
  have hl := lv_entry ([.int v, .int x, .int y]) (n := 3) (Nat.le_of_ble_eq_true rfl)
  rw [lg_entry_eq]
  generalize (lg_sl ([.int v, .int x, .int y]) ++ List.replicate (3 - (lg_sl ([.int v, .int x, .int y])).length) Slot.unset).toArray = ls at hl ⊢
  have hl : lv_has ls 3 [(0, .int v), (1, .int x), (2, .int y)] := hl
  refine lv_iload_n hx hb dM0_in_0 rfl (lv_at hl 0 rfl) ?_
  refine lv_iload_n hx hb dM0_in_1 rfl (lv_at hl 1 rfl) ?_
  refine lv_icmp_lt (tgt := 14) hx hb dM0_in_2 (by decide) (fun c_2 => ?_) (fun c_2 => ?_)
  · skip
    refine lv_iconst (v := 0) hx hb dM0_in_14 (by decide) ?_
    exact W.zret (v := 0) hx hb hr rfl (fun t ht hW => ⟨⟨0, (th, n, wk, sd, bt, lt, lo, ct, rk, ad, sp, gd, rf, sm, js, sn, wl, vl, bg, cm), rfl, ⟨rfl, (by simp only [inn, c_2, ↓reduceIte])⟩, by rw [ht]; exact hP, va_K.moved hW.alike hK, hD⟩, hS.F ht⟩) hS.2.2 dM0_in_15
  · skip
    refine lv_iload_n hx hb dM0_in_5 rfl (lv_at hl 0 rfl) ?_
    refine lv_iload_n hx hb dM0_in_6 rfl (lv_at hl 2 rfl) ?_
    refine lv_icmp_gt (tgt := 14) hx hb dM0_in_7 (by decide) (fun c_7 => ?_) (fun c_7 => ?_)
    · skip
      refine lv_iconst (v := 0) hx hb dM0_in_14 (by decide) ?_
      exact W.zret (v := 0) hx hb hr rfl (fun t ht hW => ⟨⟨0, (th, n, wk, sd, bt, lt, lo, ct, rk, ad, sp, gd, rf, sm, js, sn, wl, vl, bg, cm), rfl, ⟨rfl, (by simp only [inn, c_2, c_7, ↓reduceIte])⟩, by rw [ht]; exact hP, va_K.moved hW.alike hK, hD⟩, hS.F ht⟩) hS.2.2 dM0_in_15
    · skip
      refine lv_iconst (v := 1) hx hb dM0_in_10 (by decide) ?_
      refine lv_goto (tgt := 15) hx hb dM0_in_11 (by decide) ?_
      exact W.zret (v := 1) hx hb hr rfl (fun t ht hW => ⟨⟨1, (th, n, wk, sd, bt, lt, lo, ct, rk, ad, sp, gd, rf, sm, js, sn, wl, vl, bg, cm), rfl, ⟨rfl, (by simp only [inn, c_2, c_7, ↓reduceIte])⟩, by rw [ht]; exact hP, va_K.moved hW.alike hK, hD⟩, hS.F ht⟩) hS.2.2 dM0_in_15
set_option maxHeartbeats 4000000 in
set_option maxRecDepth 100000 in
/-- share -/
theorem c_M0_share (l : Launch) (dC : Nat → ClassId) (dI : Nat → Nat → Nat) (c0 : ClassId) (a : Nat → Nat) (sz : Nat) (th : Int32) (n : Nat) (wk sd bt lt lo : Nat → Int32) (ct : Nat) (rk ad : Nat → Int32) (sp gd rf : Int32) (sm : Int64) (js sn wl : Int32) (vl bg cm : Nat → Int32) (k : Int32) (w : Int32) (x : Int32) (b : Int32) (hn : n ≤ 40) : Met l yM0_share wsM0_share ({ frames := 1, cells := 0, slots := 0, locals := 25 }) (va_Pc [.ref (a 0), .int k, .int w, .int x, .int b] (PM dC dI c0 a (th, n, wk, sd, bt, lt, lo, ct, rk, ad, sp, gd, rf, sm, js, sn, wl, vl, bg, cm) sz)) (va_Qi (fun (r : Int32) (u : mS) => m_share (th, n, wk, sd, bt, lt, lo, ct, rk, ad, sp, gd, rf, sm, js, sn, wl, vl, bg, cm) k w x b = (r, u)) (BM dC dI c0 a (va_A (wM c0 a (th, n, wk, sd, bt, lt, lo, ct, rk, ad, sp, gd, rf, sm, js, sn, wl, vl, bg, cm)) sz)) (va_A (wM c0 a (th, n, wk, sd, bt, lt, lo, ct, rk, ad, sp, gd, rf, sm, js, sn, wl, vl, bg, cm)) sz)) 0 0 (va_A (wM c0 a (th, n, wk, sd, bt, lt, lo, ct, rk, ad, sp, gd, rf, sm, js, sn, wl, vl, bg, cm)) sz) := by
  refine Met.ofW (cc := cM0_share) (maxL := 6) (ret := (some .int)) (by decide) rfl ?_
  intro p e s m args below meth c s₁ B hml hv
  obtain ⟨rfl, hsz, hP, hK, hD0, hE⟩ := hv
  have hx := B.exec
  have hb := B.bytes
  have hr := B.returns
  have hown : s.vm.findClass RM0 = some m.cls := findClass_of_methodNamed B.named
  have hlocks := B.notSynchronized
  subst hsz
  have hD := hD0.self (sz := s.heap.size)
  generalize hAe : va_A (wM c0 a (th, n, wk, sd, bt, lt, lo, ct, rk, ad, sp, gd, rf, sm, js, sn, wl, vl, bg, cm)) s.heap.size = A at hD hE ⊢
  have hts := hE.ts (args := ([.ref (a 0), .int k, .int w, .int x, .int b] : List Value).toArray)
  have hA : ∀ q : Nat, s.heap.size ≤ q → A q := fun q h => by rw [← hAe]; exact Or.inr h
  have hS : va_S A s.heap s.heap [] := va_S.rf
  have hP : va_P (dC, dI) vwCl (wM c0 a (th, n, wk, sd, bt, lt, lo, ct, rk, ad, sp, gd, rf, sm, js, sn, wl, vl, bg, cm)) s.heap := hP
  have hl := lv_entry ([.ref (a 0), .int k, .int w, .int x, .int b]) (n := 6) (Nat.le_of_ble_eq_true rfl)
  rw [lg_entry_eq]
  generalize (lg_sl ([.ref (a 0), .int k, .int w, .int x, .int b]) ++ List.replicate (6 - (lg_sl ([.ref (a 0), .int k, .int w, .int x, .int b])).length) Slot.unset).toArray = ls at hl ⊢
  have hl : lv_has ls 6 [(0, .ref (a 0)), (1, .int k), (2, .int w), (3, .int x), (4, .int b)] := hl
  refine lv_aload_n hx hb dM0_share_0 rfl (lv_at hl 0 rfl) ?_
  refine lv_iload_n hx hb dM0_share_1 rfl (lv_at hl 1 rfl) ?_
  have hFc := fre hD hS hA
  refine va_calli (va_runV (As := [.int k]) (rest := []) ⟨hx, hb, hml, hown, hts⟩ (c_M0_isShare l dC dI c0 a _ th n wk sd bt lt lo ct rk ad sp gd rf sm js sn wl vl bg cm k) (cwV 1 hts gM0_share_M0_isShare rfl rfl rfl (by decide +kernel) ⟨(Nat.le_of_ble_eq_true rfl), (Nat.le_of_ble_eq_true rfl)⟩) ⟨PM_blind, va_recv hK hP (ci := 4) (q0 := 0) rfl rfl, PM_give hP hK hD hE hS hFc⟩ rfl rfl hl.1 rfl (lv_room (Nat.le_of_ble_eq_true rfl)) dM0_share_2 ⟨by decide, by decide⟩) hS (fun q _ h => hFc q h) hFc (fun r_2 u t H1 locs ht hvm hw hB hz1 hk1 hS => ?_)
  obtain ⟨rfl, rfl⟩ := hw
  obtain ⟨hP, hD⟩ := PM_take ht hFc hB
  generalize H1 = H at hP hS ⊢
  have hP : va_P (dC, dI) vwCl (wM c0 a (th, n, wk, sd, bt, lt, lo, ct, rk, ad, sp, gd, rf, sm, js, sn, wl, vl, bg, cm)) H := hP
  have hD : va_D A (wM c0 a (th, n, wk, sd, bt, lt, lo, ct, rk, ad, sp, gd, rf, sm, js, sn, wl, vl, bg, cm)) := hD
  refine lv_if_ne (tgt := 14) hx hb dM0_share_5 (by decide) (fun c_5 => ?_) (fun c_5 => ?_)
  · skip
    have hk : vp_in k 40 := in_le (isS_in c_5 (by omega)) hn
    refine lv_iload_n hx hb dM0_share_14 rfl (lv_at hl 2 rfl) ?_
    refine lv_iconst (v := 1) hx hb dM0_share_15 (by decide) ?_
    refine lv_bipush (v := 30) hx hb dM0_share_16 (by decide) ?_
    have hFc := fre hD hS hA
    refine va_calli (va_runS (As := [.int w, .int 1, .int 30]) (rest := []) ⟨hx, hb, hml, hown, hts⟩ (c_M0_in l dC dI c0 a _ th n wk sd bt lt lo ct rk ad sp gd rf sm js sn wl vl bg cm w 1 30) (va_cwS 3 hts gM0_share_M0_in rfl rfl rfl (by decide +kernel) ⟨(Nat.le_of_ble_eq_true rfl), (Nat.le_of_ble_eq_true rfl)⟩) ⟨PM_blind, PM_give hP hK hD hE hS hFc⟩ rfl rfl hl.1 rfl (lv_room (Nat.le_of_ble_eq_true rfl)) dM0_share_18 ⟨by decide, by decide⟩) hS (fun q _ h => hFc q h) hFc (fun r_18 u t H1 locs ht hvm hw hB hz1 hk1 hS => ?_)
    obtain ⟨rfl, rfl⟩ := hw
    obtain ⟨hP, hD⟩ := PM_take ht hFc hB
    generalize H1 = H at hP hS ⊢
    have hP : va_P (dC, dI) vwCl (wM c0 a (th, n, wk, sd, bt, lt, lo, ct, rk, ad, sp, gd, rf, sm, js, sn, wl, vl, bg, cm)) H := hP
    have hD : va_D A (wM c0 a (th, n, wk, sd, bt, lt, lo, ct, rk, ad, sp, gd, rf, sm, js, sn, wl, vl, bg, cm)) := hD
    refine lv_if_eq (tgt := 35) hx hb dM0_share_21 (by decide) (fun c_21 => ?_) (fun c_21 => ?_)
    · skip
      refine lv_aload_n hx hb dM0_share_35 rfl (lv_at hl 0 rfl) ?_
      refine lv_iconst (v := 2) hx hb dM0_share_36 (by decide) ?_
      have hFc := fre hD hS hA
      refine va_calli (va_runV (As := [.int 2]) (rest := []) ⟨hx, hb, hml, hown, hts⟩ (c_M0_refuse l dC dI c0 a _ th n wk sd bt lt lo ct rk ad sp gd rf sm js sn wl vl bg cm 2) (cwV 1 hts gM0_share_M0_refuse rfl rfl rfl (by decide +kernel) ⟨(Nat.le_of_ble_eq_true rfl), (Nat.le_of_ble_eq_true rfl)⟩) ⟨PM_blind, va_recv hK hP (ci := 4) (q0 := 0) rfl rfl, PM_give hP hK hD hE hS hFc⟩ rfl rfl hl.1 rfl (lv_room (Nat.le_of_ble_eq_true rfl)) dM0_share_37 ⟨by decide, by decide⟩) hS (fun q _ h => hFc q h) hFc (fun r_37 u t H1 locs ht hvm hw hB hz1 hk1 hS => ?_)
      obtain ⟨rfl, rfl⟩ := hw
      obtain ⟨hP, hD⟩ := PM_take ht hFc hB
      generalize H1 = H at hP hS ⊢
      have hP : va_P (dC, dI) vwCl (wM c0 a (2, n, wk, sd, bt, lt, lo, ct, rk, ad, sp, gd, rf, sm, js, sn, wl, vl, bg, cm)) H := hP
      have hD : va_D A (wM c0 a (2, n, wk, sd, bt, lt, lo, ct, rk, ad, sp, gd, rf, sm, js, sn, wl, vl, bg, cm)) := hD
      exact W.iret (v := 0) hx hb hr (fun t ht hW => ⟨⟨0, (2, n, wk, sd, bt, lt, lo, ct, rk, ad, sp, gd, rf, sm, js, sn, wl, vl, bg, cm), rfl, (by simp only [m_share, c_5, eq_true c_21, ↓reduceIte]), by rw [ht]; exact hP, va_K.moved hW.alike hK, hD⟩, hS.F ht⟩) hS.2.2 dM0_share_40
    · skip
      refine lv_iload hx hb dM0_share_24 (lv_at hl 4 rfl) ?_
      refine lv_iconst (v := 0) hx hb dM0_share_26 (by decide) ?_
      refine lv_bipush (v := 8) hx hb dM0_share_27 (by decide) ?_
      have hFc := fre hD hS hA
      refine va_calli (va_runS (As := [.int b, .int 0, .int 8]) (rest := []) ⟨hx, hb, hml, hown, hts⟩ (c_M0_in l dC dI c0 a _ th n wk sd bt lt lo ct rk ad sp gd rf sm js sn wl vl bg cm b 0 8) (va_cwS 3 hts gM0_share_M0_in rfl rfl rfl (by decide +kernel) ⟨(Nat.le_of_ble_eq_true rfl), (Nat.le_of_ble_eq_true rfl)⟩) ⟨PM_blind, PM_give hP hK hD hE hS hFc⟩ rfl rfl hl.1 rfl (lv_room (Nat.le_of_ble_eq_true rfl)) dM0_share_29 ⟨by decide, by decide⟩) hS (fun q _ h => hFc q h) hFc (fun r_29 u t H1 locs ht hvm hw hB hz1 hk1 hS => ?_)
      obtain ⟨rfl, rfl⟩ := hw
      obtain ⟨hP, hD⟩ := PM_take ht hFc hB
      generalize H1 = H at hP hS ⊢
      have hP : va_P (dC, dI) vwCl (wM c0 a (th, n, wk, sd, bt, lt, lo, ct, rk, ad, sp, gd, rf, sm, js, sn, wl, vl, bg, cm)) H := hP
      have hD : va_D A (wM c0 a (th, n, wk, sd, bt, lt, lo, ct, rk, ad, sp, gd, rf, sm, js, sn, wl, vl, bg, cm)) := hD
      refine lv_if_ne (tgt := 41) hx hb dM0_share_32 (by decide) (fun c_32 => ?_) (fun c_32 => ?_)
      · skip
        refine lv_aload_n hx hb dM0_share_41 rfl (lv_at hl 0 rfl) ?_
        refine lv_iconst (v := 0) hx hb dM0_share_42 (by decide) ?_
        refine va_put (D := (dC, dI)) (ci := 4) (v := .int 0) (ty := .int) (C := RM0) (T := TM0) (N := 20) hx hb hts inM0 tyM0 tyM0_ok nmM0 hown hK hP hD hS 0 rfl rfl 0 (by decide) (hE.t m_427 rfl) (fun _ h9 => h9) rfl (by decide +kernel) rfl rfl (Nat.le_of_ble_eq_true rfl) dM0_share_43 (fun H locs hP hD hS => ?_)
        have hP : va_P (dC, dI) vwCl (wM c0 a (0, n, wk, sd, bt, lt, lo, ct, rk, ad, sp, gd, rf, sm, js, sn, wl, vl, bg, cm)) H := hP
        have hD : va_D A (wM c0 a (0, n, wk, sd, bt, lt, lo, ct, rk, ad, sp, gd, rf, sm, js, sn, wl, vl, bg, cm)) := hD
        refine lv_aload_n hx hb dM0_share_46 rfl (lv_at hl 0 rfl) ?_
        refine va_get (D := (dC, dI)) (ci := 4) (v := .ref (a 1)) (C := RM0) (T := TM0) (N := 20) hx hb hts inM0 hown hK hP 0 rfl rfl 2 (by decide) (hE.t m_429 rfl) (fun _ h9 => h9) rfl dM0_share_47 ?_
        refine lv_iload_n hx hb dM0_share_50 rfl (lv_at hl 1 rfl) ?_
        refine va_iald hx hb hK hP 1 0 rfl rfl hk dM0_share_51 ?_
        refine lv_istore (lv' := [(5, .int (wk k.toNatClampNeg)), (0, .ref (a 0)), (1, .int k), (2, .int w), (3, .int x), (4, .int b)]) hx hb dM0_share_52 hl (by decide) rfl (fun ls hl => ?_)
        refine lv_aload_n hx hb dM0_share_54 rfl (lv_at hl 1 rfl) ?_
        refine va_get (D := (dC, dI)) (ci := 4) (v := .ref (a 1)) (C := RM0) (T := TM0) (N := 20) hx hb hts inM0 hown hK hP 0 rfl rfl 2 (by decide) (hE.t m_429 rfl) (fun _ h9 => h9) rfl dM0_share_55 ?_
        refine lv_iload_n hx hb dM0_share_58 rfl (lv_at hl 2 rfl) ?_
        refine lv_iload_n hx hb dM0_share_59 rfl (lv_at hl 3 rfl) ?_
        refine va_iast hx hb hK hP hD hS 1 0 rfl rfl hk dM0_share_60 (fun H locs hP hD hS => ?_)
        have hP : va_P (dC, dI) vwCl (wM c0 a (0, n, upd wk k.toNatClampNeg w, sd, bt, lt, lo, ct, rk, ad, sp, gd, rf, sm, js, sn, wl, vl, bg, cm)) H := hP
        have hD : va_D A (wM c0 a (0, n, upd wk k.toNatClampNeg w, sd, bt, lt, lo, ct, rk, ad, sp, gd, rf, sm, js, sn, wl, vl, bg, cm)) := hD
        refine lv_aload_n hx hb dM0_share_61 rfl (lv_at hl 1 rfl) ?_
        refine va_get (D := (dC, dI)) (ci := 4) (v := .ref (a 2)) (C := RM0) (T := TM0) (N := 20) hx hb hts inM0 hown hK hP 0 rfl rfl 3 (by decide) (hE.t m_430 rfl) (fun _ h9 => h9) rfl dM0_share_62 ?_
        refine lv_iload_n hx hb dM0_share_65 rfl (lv_at hl 2 rfl) ?_
        refine lv_iload_n hx hb dM0_share_66 rfl (lv_at hl 4 rfl) ?_
        refine va_iast hx hb hK hP hD hS 2 0 rfl rfl hk dM0_share_67 (fun H locs hP hD hS => ?_)
        have hP : va_P (dC, dI) vwCl (wM c0 a (0, n, upd wk k.toNatClampNeg w, upd sd k.toNatClampNeg x, bt, lt, lo, ct, rk, ad, sp, gd, rf, sm, js, sn, wl, vl, bg, cm)) H := hP
        have hD : va_D A (wM c0 a (0, n, upd wk k.toNatClampNeg w, upd sd k.toNatClampNeg x, bt, lt, lo, ct, rk, ad, sp, gd, rf, sm, js, sn, wl, vl, bg, cm)) := hD
        refine lv_aload_n hx hb dM0_share_68 rfl (lv_at hl 1 rfl) ?_
        refine va_get (D := (dC, dI)) (ci := 4) (v := .ref (a 3)) (C := RM0) (T := TM0) (N := 20) hx hb hts inM0 hown hK hP 0 rfl rfl 4 (by decide) (hE.t m_431 rfl) (fun _ h9 => h9) rfl dM0_share_69 ?_
        refine lv_iload_n hx hb dM0_share_72 rfl (lv_at hl 2 rfl) ?_
        refine lv_iload hx hb dM0_share_73 (lv_at hl 5 rfl) ?_
        refine va_iast hx hb hK hP hD hS 3 0 rfl rfl hk dM0_share_75 (fun H locs hP hD hS => ?_)
        have hP : va_P (dC, dI) vwCl (wM c0 a (0, n, upd wk k.toNatClampNeg w, upd sd k.toNatClampNeg x, upd bt k.toNatClampNeg b, lt, lo, ct, rk, ad, sp, gd, rf, sm, js, sn, wl, vl, bg, cm)) H := hP
        have hD : va_D A (wM c0 a (0, n, upd wk k.toNatClampNeg w, upd sd k.toNatClampNeg x, upd bt k.toNatClampNeg b, lt, lo, ct, rk, ad, sp, gd, rf, sm, js, sn, wl, vl, bg, cm)) := hD
        refine lv_iload hx hb dM0_share_76 (lv_at hl 0 rfl) ?_
        exact W.iret (v := wk k.toNatClampNeg) hx hb hr (fun t ht hW => ⟨⟨wk k.toNatClampNeg, (0, n, upd wk k.toNatClampNeg w, upd sd k.toNatClampNeg x, upd bt k.toNatClampNeg b, lt, lo, ct, rk, ad, sp, gd, rf, sm, js, sn, wl, vl, bg, cm), rfl, (by simp only [m_share, c_5, c_21, c_32, ↓reduceIte]), by rw [ht]; exact hP, va_K.moved hW.alike hK, hD⟩, hS.F ht⟩) hS.2.2 dM0_share_78
      · skip
        refine lv_aload_n hx hb dM0_share_35 rfl (lv_at hl 0 rfl) ?_
        refine lv_iconst (v := 2) hx hb dM0_share_36 (by decide) ?_
        have hFc := fre hD hS hA
        refine va_calli (va_runV (As := [.int 2]) (rest := []) ⟨hx, hb, hml, hown, hts⟩ (c_M0_refuse l dC dI c0 a _ th n wk sd bt lt lo ct rk ad sp gd rf sm js sn wl vl bg cm 2) (cwV 1 hts gM0_share_M0_refuse rfl rfl rfl (by decide +kernel) ⟨(Nat.le_of_ble_eq_true rfl), (Nat.le_of_ble_eq_true rfl)⟩) ⟨PM_blind, va_recv hK hP (ci := 4) (q0 := 0) rfl rfl, PM_give hP hK hD hE hS hFc⟩ rfl rfl hl.1 rfl (lv_room (Nat.le_of_ble_eq_true rfl)) dM0_share_37 ⟨by decide, by decide⟩) hS (fun q _ h => hFc q h) hFc (fun r_37 u t H1 locs ht hvm hw hB hz1 hk1 hS => ?_)
        obtain ⟨rfl, rfl⟩ := hw
        obtain ⟨hP, hD⟩ := PM_take ht hFc hB
        generalize H1 = H at hP hS ⊢
        have hP : va_P (dC, dI) vwCl (wM c0 a (2, n, wk, sd, bt, lt, lo, ct, rk, ad, sp, gd, rf, sm, js, sn, wl, vl, bg, cm)) H := hP
        have hD : va_D A (wM c0 a (2, n, wk, sd, bt, lt, lo, ct, rk, ad, sp, gd, rf, sm, js, sn, wl, vl, bg, cm)) := hD
        exact W.iret (v := 0) hx hb hr (fun t ht hW => ⟨⟨0, (2, n, wk, sd, bt, lt, lo, ct, rk, ad, sp, gd, rf, sm, js, sn, wl, vl, bg, cm), rfl, (by simp only [m_share, c_5, c_21, eq_true c_32, ↓reduceIte]), by rw [ht]; exact hP, va_K.moved hW.alike hK, hD⟩, hS.F ht⟩) hS.2.2 dM0_share_40
  · skip
    refine lv_aload_n hx hb dM0_share_8 rfl (lv_at hl 0 rfl) ?_
    refine lv_iconst (v := 1) hx hb dM0_share_9 (by decide) ?_
    have hFc := fre hD hS hA
    refine va_calli (va_runV (As := [.int 1]) (rest := []) ⟨hx, hb, hml, hown, hts⟩ (c_M0_refuse l dC dI c0 a _ th n wk sd bt lt lo ct rk ad sp gd rf sm js sn wl vl bg cm 1) (cwV 1 hts gM0_share_M0_refuse rfl rfl rfl (by decide +kernel) ⟨(Nat.le_of_ble_eq_true rfl), (Nat.le_of_ble_eq_true rfl)⟩) ⟨PM_blind, va_recv hK hP (ci := 4) (q0 := 0) rfl rfl, PM_give hP hK hD hE hS hFc⟩ rfl rfl hl.1 rfl (lv_room (Nat.le_of_ble_eq_true rfl)) dM0_share_10 ⟨by decide, by decide⟩) hS (fun q _ h => hFc q h) hFc (fun r_10 u t H1 locs ht hvm hw hB hz1 hk1 hS => ?_)
    obtain ⟨rfl, rfl⟩ := hw
    obtain ⟨hP, hD⟩ := PM_take ht hFc hB
    generalize H1 = H at hP hS ⊢
    have hP : va_P (dC, dI) vwCl (wM c0 a (1, n, wk, sd, bt, lt, lo, ct, rk, ad, sp, gd, rf, sm, js, sn, wl, vl, bg, cm)) H := hP
    have hD : va_D A (wM c0 a (1, n, wk, sd, bt, lt, lo, ct, rk, ad, sp, gd, rf, sm, js, sn, wl, vl, bg, cm)) := hD
    exact W.iret (v := 0) hx hb hr (fun t ht hW => ⟨⟨0, (1, n, wk, sd, bt, lt, lo, ct, rk, ad, sp, gd, rf, sm, js, sn, wl, vl, bg, cm), rfl, (by simp only [m_share, eq_true c_5, ↓reduceIte]), by rw [ht]; exact hP, va_K.moved hW.alike hK, hD⟩, hS.F ht⟩) hS.2.2 dM0_share_13
set_option maxHeartbeats 4000000 in
set_option maxRecDepth 100000 in
/-- fails -/
theorem c_M0_fails (l : Launch) (dC : Nat → ClassId) (dI : Nat → Nat → Nat) (c0 : ClassId) (a : Nat → Nat) (sz : Nat) (th : Int32) (n : Nat) (wk sd bt lt lo : Nat → Int32) (ct : Nat) (rk ad : Nat → Int32) (sp gd rf : Int32) (sm : Int64) (js sn wl : Int32) (vl bg cm : Nat → Int32) (k : Int32) (w : Int32) (x : Int32) (hn : n ≤ 40) : Met l yM0_fails wsM0_fails ({ frames := 1, cells := 0, slots := 0, locals := 25 }) (va_Pc [.ref (a 0), .int k, .int w, .int x] (PM dC dI c0 a (th, n, wk, sd, bt, lt, lo, ct, rk, ad, sp, gd, rf, sm, js, sn, wl, vl, bg, cm) sz)) (va_Qi (fun (r : Int32) (u : mS) => m_fails (th, n, wk, sd, bt, lt, lo, ct, rk, ad, sp, gd, rf, sm, js, sn, wl, vl, bg, cm) k w x = (r, u)) (BM dC dI c0 a (va_A (wM c0 a (th, n, wk, sd, bt, lt, lo, ct, rk, ad, sp, gd, rf, sm, js, sn, wl, vl, bg, cm)) sz)) (va_A (wM c0 a (th, n, wk, sd, bt, lt, lo, ct, rk, ad, sp, gd, rf, sm, js, sn, wl, vl, bg, cm)) sz)) 0 0 (va_A (wM c0 a (th, n, wk, sd, bt, lt, lo, ct, rk, ad, sp, gd, rf, sm, js, sn, wl, vl, bg, cm)) sz) := by
  refine Met.ofW (cc := cM0_fails) (maxL := 5) (ret := (some .int)) (by decide) rfl ?_
  intro p e s m args below meth c s₁ B hml hv
  obtain ⟨rfl, hsz, hP, hK, hD0, hE⟩ := hv
  have hx := B.exec
  have hb := B.bytes
  have hr := B.returns
  have hown : s.vm.findClass RM0 = some m.cls := findClass_of_methodNamed B.named
  have hlocks := B.notSynchronized
  subst hsz
  have hD := hD0.self (sz := s.heap.size)
  generalize hAe : va_A (wM c0 a (th, n, wk, sd, bt, lt, lo, ct, rk, ad, sp, gd, rf, sm, js, sn, wl, vl, bg, cm)) s.heap.size = A at hD hE ⊢
  have hts := hE.ts (args := ([.ref (a 0), .int k, .int w, .int x] : List Value).toArray)
  have hA : ∀ q : Nat, s.heap.size ≤ q → A q := fun q h => by rw [← hAe]; exact Or.inr h
  have hS : va_S A s.heap s.heap [] := va_S.rf
  have hP : va_P (dC, dI) vwCl (wM c0 a (th, n, wk, sd, bt, lt, lo, ct, rk, ad, sp, gd, rf, sm, js, sn, wl, vl, bg, cm)) s.heap := hP
  have hl := lv_entry ([.ref (a 0), .int k, .int w, .int x]) (n := 5) (Nat.le_of_ble_eq_true rfl)
  rw [lg_entry_eq]
  generalize (lg_sl ([.ref (a 0), .int k, .int w, .int x]) ++ List.replicate (5 - (lg_sl ([.ref (a 0), .int k, .int w, .int x])).length) Slot.unset).toArray = ls at hl ⊢
  have hl : lv_has ls 5 [(0, .ref (a 0)), (1, .int k), (2, .int w), (3, .int x)] := hl
  refine lv_aload_n hx hb dM0_fails_0 rfl (lv_at hl 0 rfl) ?_
  refine lv_iload_n hx hb dM0_fails_1 rfl (lv_at hl 1 rfl) ?_
  have hFc := fre hD hS hA
  refine va_calli (va_runV (As := [.int k]) (rest := []) ⟨hx, hb, hml, hown, hts⟩ (c_M0_isShare l dC dI c0 a _ th n wk sd bt lt lo ct rk ad sp gd rf sm js sn wl vl bg cm k) (cwV 1 hts gM0_fails_M0_isShare rfl rfl rfl (by decide +kernel) ⟨(Nat.le_of_ble_eq_true rfl), (Nat.le_of_ble_eq_true rfl)⟩) ⟨PM_blind, va_recv hK hP (ci := 4) (q0 := 0) rfl rfl, PM_give hP hK hD hE hS hFc⟩ rfl rfl hl.1 rfl (lv_room (Nat.le_of_ble_eq_true rfl)) dM0_fails_2 ⟨by decide, by decide⟩) hS (fun q _ h => hFc q h) hFc (fun r_2 u t H1 locs ht hvm hw hB hz1 hk1 hS => ?_)
  obtain ⟨rfl, rfl⟩ := hw
  obtain ⟨hP, hD⟩ := PM_take ht hFc hB
  generalize H1 = H at hP hS ⊢
  have hP : va_P (dC, dI) vwCl (wM c0 a (th, n, wk, sd, bt, lt, lo, ct, rk, ad, sp, gd, rf, sm, js, sn, wl, vl, bg, cm)) H := hP
  have hD : va_D A (wM c0 a (th, n, wk, sd, bt, lt, lo, ct, rk, ad, sp, gd, rf, sm, js, sn, wl, vl, bg, cm)) := hD
  refine lv_if_ne (tgt := 14) hx hb dM0_fails_5 (by decide) (fun c_5 => ?_) (fun c_5 => ?_)
  · skip
    have hk : vp_in k 40 := in_le (isS_in c_5 (by omega)) hn
    refine lv_iload_n hx hb dM0_fails_14 rfl (lv_at hl 2 rfl) ?_
    refine lv_iconst (v := 1) hx hb dM0_fails_15 (by decide) ?_
    refine lv_bipush (v := 30) hx hb dM0_fails_16 (by decide) ?_
    have hFc := fre hD hS hA
    refine va_calli (va_runS (As := [.int w, .int 1, .int 30]) (rest := []) ⟨hx, hb, hml, hown, hts⟩ (c_M0_in l dC dI c0 a _ th n wk sd bt lt lo ct rk ad sp gd rf sm js sn wl vl bg cm w 1 30) (va_cwS 3 hts gM0_fails_M0_in rfl rfl rfl (by decide +kernel) ⟨(Nat.le_of_ble_eq_true rfl), (Nat.le_of_ble_eq_true rfl)⟩) ⟨PM_blind, PM_give hP hK hD hE hS hFc⟩ rfl rfl hl.1 rfl (lv_room (Nat.le_of_ble_eq_true rfl)) dM0_fails_18 ⟨by decide, by decide⟩) hS (fun q _ h => hFc q h) hFc (fun r_18 u t H1 locs ht hvm hw hB hz1 hk1 hS => ?_)
    obtain ⟨rfl, rfl⟩ := hw
    obtain ⟨hP, hD⟩ := PM_take ht hFc hB
    generalize H1 = H at hP hS ⊢
    have hP : va_P (dC, dI) vwCl (wM c0 a (th, n, wk, sd, bt, lt, lo, ct, rk, ad, sp, gd, rf, sm, js, sn, wl, vl, bg, cm)) H := hP
    have hD : va_D A (wM c0 a (th, n, wk, sd, bt, lt, lo, ct, rk, ad, sp, gd, rf, sm, js, sn, wl, vl, bg, cm)) := hD
    refine lv_if_eq (tgt := 33) hx hb dM0_fails_21 (by decide) (fun c_21 => ?_) (fun c_21 => ?_)
    · skip
      refine lv_aload_n hx hb dM0_fails_33 rfl (lv_at hl 0 rfl) ?_
      refine lv_iconst (v := 2) hx hb dM0_fails_34 (by decide) ?_
      have hFc := fre hD hS hA
      refine va_calli (va_runV (As := [.int 2]) (rest := []) ⟨hx, hb, hml, hown, hts⟩ (c_M0_refuse l dC dI c0 a _ th n wk sd bt lt lo ct rk ad sp gd rf sm js sn wl vl bg cm 2) (cwV 1 hts gM0_fails_M0_refuse rfl rfl rfl (by decide +kernel) ⟨(Nat.le_of_ble_eq_true rfl), (Nat.le_of_ble_eq_true rfl)⟩) ⟨PM_blind, va_recv hK hP (ci := 4) (q0 := 0) rfl rfl, PM_give hP hK hD hE hS hFc⟩ rfl rfl hl.1 rfl (lv_room (Nat.le_of_ble_eq_true rfl)) dM0_fails_35 ⟨by decide, by decide⟩) hS (fun q _ h => hFc q h) hFc (fun r_35 u t H1 locs ht hvm hw hB hz1 hk1 hS => ?_)
      obtain ⟨rfl, rfl⟩ := hw
      obtain ⟨hP, hD⟩ := PM_take ht hFc hB
      generalize H1 = H at hP hS ⊢
      have hP : va_P (dC, dI) vwCl (wM c0 a (2, n, wk, sd, bt, lt, lo, ct, rk, ad, sp, gd, rf, sm, js, sn, wl, vl, bg, cm)) H := hP
      have hD : va_D A (wM c0 a (2, n, wk, sd, bt, lt, lo, ct, rk, ad, sp, gd, rf, sm, js, sn, wl, vl, bg, cm)) := hD
      exact W.iret (v := 0) hx hb hr (fun t ht hW => ⟨⟨0, (2, n, wk, sd, bt, lt, lo, ct, rk, ad, sp, gd, rf, sm, js, sn, wl, vl, bg, cm), rfl, (by simp only [m_fails, c_5, eq_true c_21, ↓reduceIte]), by rw [ht]; exact hP, va_K.moved hW.alike hK, hD⟩, hS.F ht⟩) hS.2.2 dM0_fails_38
    · skip
      refine lv_iload_n hx hb dM0_fails_24 rfl (lv_at hl 3 rfl) ?_
      refine lv_iconst (v := 0) hx hb dM0_fails_25 (by decide) ?_
      refine lv_iconst (v := 4) hx hb dM0_fails_26 (by decide) ?_
      have hFc := fre hD hS hA
      refine va_calli (va_runS (As := [.int x, .int 0, .int 4]) (rest := []) ⟨hx, hb, hml, hown, hts⟩ (c_M0_in l dC dI c0 a _ th n wk sd bt lt lo ct rk ad sp gd rf sm js sn wl vl bg cm x 0 4) (va_cwS 3 hts gM0_fails_M0_in rfl rfl rfl (by decide +kernel) ⟨(Nat.le_of_ble_eq_true rfl), (Nat.le_of_ble_eq_true rfl)⟩) ⟨PM_blind, PM_give hP hK hD hE hS hFc⟩ rfl rfl hl.1 rfl (lv_room (Nat.le_of_ble_eq_true rfl)) dM0_fails_27 ⟨by decide, by decide⟩) hS (fun q _ h => hFc q h) hFc (fun r_27 u t H1 locs ht hvm hw hB hz1 hk1 hS => ?_)
      obtain ⟨rfl, rfl⟩ := hw
      obtain ⟨hP, hD⟩ := PM_take ht hFc hB
      generalize H1 = H at hP hS ⊢
      have hP : va_P (dC, dI) vwCl (wM c0 a (th, n, wk, sd, bt, lt, lo, ct, rk, ad, sp, gd, rf, sm, js, sn, wl, vl, bg, cm)) H := hP
      have hD : va_D A (wM c0 a (th, n, wk, sd, bt, lt, lo, ct, rk, ad, sp, gd, rf, sm, js, sn, wl, vl, bg, cm)) := hD
      refine lv_if_ne (tgt := 39) hx hb dM0_fails_30 (by decide) (fun c_30 => ?_) (fun c_30 => ?_)
      · skip
        refine lv_aload_n hx hb dM0_fails_39 rfl (lv_at hl 0 rfl) ?_
        refine lv_iconst (v := 0) hx hb dM0_fails_40 (by decide) ?_
        refine va_put (D := (dC, dI)) (ci := 4) (v := .int 0) (ty := .int) (C := RM0) (T := TM0) (N := 20) hx hb hts inM0 tyM0 tyM0_ok nmM0 hown hK hP hD hS 0 rfl rfl 0 (by decide) (hE.t m_427 rfl) (fun _ h9 => h9) rfl (by decide +kernel) rfl rfl (Nat.le_of_ble_eq_true rfl) dM0_fails_41 (fun H locs hP hD hS => ?_)
        have hP : va_P (dC, dI) vwCl (wM c0 a (0, n, wk, sd, bt, lt, lo, ct, rk, ad, sp, gd, rf, sm, js, sn, wl, vl, bg, cm)) H := hP
        have hD : va_D A (wM c0 a (0, n, wk, sd, bt, lt, lo, ct, rk, ad, sp, gd, rf, sm, js, sn, wl, vl, bg, cm)) := hD
        refine lv_aload_n hx hb dM0_fails_44 rfl (lv_at hl 0 rfl) ?_
        refine va_get (D := (dC, dI)) (ci := 4) (v := .ref (a 5)) (C := RM0) (T := TM0) (N := 20) hx hb hts inM0 hown hK hP 0 rfl rfl 6 (by decide) (hE.t m_433 rfl) (fun _ h9 => h9) rfl dM0_fails_45 ?_
        refine lv_iload_n hx hb dM0_fails_48 rfl (lv_at hl 1 rfl) ?_
        refine va_iald hx hb hK hP 5 0 rfl rfl hk dM0_fails_49 ?_
        refine lv_istore (lv' := [(4, .int (lo k.toNatClampNeg)), (0, .ref (a 0)), (1, .int k), (2, .int w), (3, .int x)]) hx hb dM0_fails_50 hl (by decide) rfl (fun ls hl => ?_)
        refine lv_aload_n hx hb dM0_fails_52 rfl (lv_at hl 1 rfl) ?_
        refine va_get (D := (dC, dI)) (ci := 4) (v := .ref (a 4)) (C := RM0) (T := TM0) (N := 20) hx hb hts inM0 hown hK hP 0 rfl rfl 5 (by decide) (hE.t m_432 rfl) (fun _ h9 => h9) rfl dM0_fails_53 ?_
        refine lv_iload_n hx hb dM0_fails_56 rfl (lv_at hl 2 rfl) ?_
        refine lv_iload_n hx hb dM0_fails_57 rfl (lv_at hl 3 rfl) ?_
        refine va_iast hx hb hK hP hD hS 4 0 rfl rfl hk dM0_fails_58 (fun H locs hP hD hS => ?_)
        have hP : va_P (dC, dI) vwCl (wM c0 a (0, n, wk, sd, bt, upd lt k.toNatClampNeg w, lo, ct, rk, ad, sp, gd, rf, sm, js, sn, wl, vl, bg, cm)) H := hP
        have hD : va_D A (wM c0 a (0, n, wk, sd, bt, upd lt k.toNatClampNeg w, lo, ct, rk, ad, sp, gd, rf, sm, js, sn, wl, vl, bg, cm)) := hD
        refine lv_aload_n hx hb dM0_fails_59 rfl (lv_at hl 1 rfl) ?_
        refine va_get (D := (dC, dI)) (ci := 4) (v := .ref (a 5)) (C := RM0) (T := TM0) (N := 20) hx hb hts inM0 hown hK hP 0 rfl rfl 6 (by decide) (hE.t m_433 rfl) (fun _ h9 => h9) rfl dM0_fails_60 ?_
        refine lv_iload_n hx hb dM0_fails_63 rfl (lv_at hl 2 rfl) ?_
        refine lv_iload_n hx hb dM0_fails_64 rfl (lv_at hl 4 rfl) ?_
        refine va_iast hx hb hK hP hD hS 5 0 rfl rfl hk dM0_fails_65 (fun H locs hP hD hS => ?_)
        have hP : va_P (dC, dI) vwCl (wM c0 a (0, n, wk, sd, bt, upd lt k.toNatClampNeg w, upd lo k.toNatClampNeg x, ct, rk, ad, sp, gd, rf, sm, js, sn, wl, vl, bg, cm)) H := hP
        have hD : va_D A (wM c0 a (0, n, wk, sd, bt, upd lt k.toNatClampNeg w, upd lo k.toNatClampNeg x, ct, rk, ad, sp, gd, rf, sm, js, sn, wl, vl, bg, cm)) := hD
        refine lv_iload hx hb dM0_fails_66 (lv_at hl 0 rfl) ?_
        exact W.iret (v := lo k.toNatClampNeg) hx hb hr (fun t ht hW => ⟨⟨lo k.toNatClampNeg, (0, n, wk, sd, bt, upd lt k.toNatClampNeg w, upd lo k.toNatClampNeg x, ct, rk, ad, sp, gd, rf, sm, js, sn, wl, vl, bg, cm), rfl, (by simp only [m_fails, c_5, c_21, c_30, ↓reduceIte]), by rw [ht]; exact hP, va_K.moved hW.alike hK, hD⟩, hS.F ht⟩) hS.2.2 dM0_fails_68
      · skip
        refine lv_aload_n hx hb dM0_fails_33 rfl (lv_at hl 0 rfl) ?_
        refine lv_iconst (v := 2) hx hb dM0_fails_34 (by decide) ?_
        have hFc := fre hD hS hA
        refine va_calli (va_runV (As := [.int 2]) (rest := []) ⟨hx, hb, hml, hown, hts⟩ (c_M0_refuse l dC dI c0 a _ th n wk sd bt lt lo ct rk ad sp gd rf sm js sn wl vl bg cm 2) (cwV 1 hts gM0_fails_M0_refuse rfl rfl rfl (by decide +kernel) ⟨(Nat.le_of_ble_eq_true rfl), (Nat.le_of_ble_eq_true rfl)⟩) ⟨PM_blind, va_recv hK hP (ci := 4) (q0 := 0) rfl rfl, PM_give hP hK hD hE hS hFc⟩ rfl rfl hl.1 rfl (lv_room (Nat.le_of_ble_eq_true rfl)) dM0_fails_35 ⟨by decide, by decide⟩) hS (fun q _ h => hFc q h) hFc (fun r_35 u t H1 locs ht hvm hw hB hz1 hk1 hS => ?_)
        obtain ⟨rfl, rfl⟩ := hw
        obtain ⟨hP, hD⟩ := PM_take ht hFc hB
        generalize H1 = H at hP hS ⊢
        have hP : va_P (dC, dI) vwCl (wM c0 a (2, n, wk, sd, bt, lt, lo, ct, rk, ad, sp, gd, rf, sm, js, sn, wl, vl, bg, cm)) H := hP
        have hD : va_D A (wM c0 a (2, n, wk, sd, bt, lt, lo, ct, rk, ad, sp, gd, rf, sm, js, sn, wl, vl, bg, cm)) := hD
        exact W.iret (v := 0) hx hb hr (fun t ht hW => ⟨⟨0, (2, n, wk, sd, bt, lt, lo, ct, rk, ad, sp, gd, rf, sm, js, sn, wl, vl, bg, cm), rfl, (by simp only [m_fails, c_5, c_21, eq_true c_30, ↓reduceIte]), by rw [ht]; exact hP, va_K.moved hW.alike hK, hD⟩, hS.F ht⟩) hS.2.2 dM0_fails_38
  · skip
    refine lv_aload_n hx hb dM0_fails_8 rfl (lv_at hl 0 rfl) ?_
    refine lv_iconst (v := 1) hx hb dM0_fails_9 (by decide) ?_
    have hFc := fre hD hS hA
    refine va_calli (va_runV (As := [.int 1]) (rest := []) ⟨hx, hb, hml, hown, hts⟩ (c_M0_refuse l dC dI c0 a _ th n wk sd bt lt lo ct rk ad sp gd rf sm js sn wl vl bg cm 1) (cwV 1 hts gM0_fails_M0_refuse rfl rfl rfl (by decide +kernel) ⟨(Nat.le_of_ble_eq_true rfl), (Nat.le_of_ble_eq_true rfl)⟩) ⟨PM_blind, va_recv hK hP (ci := 4) (q0 := 0) rfl rfl, PM_give hP hK hD hE hS hFc⟩ rfl rfl hl.1 rfl (lv_room (Nat.le_of_ble_eq_true rfl)) dM0_fails_10 ⟨by decide, by decide⟩) hS (fun q _ h => hFc q h) hFc (fun r_10 u t H1 locs ht hvm hw hB hz1 hk1 hS => ?_)
    obtain ⟨rfl, rfl⟩ := hw
    obtain ⟨hP, hD⟩ := PM_take ht hFc hB
    generalize H1 = H at hP hS ⊢
    have hP : va_P (dC, dI) vwCl (wM c0 a (1, n, wk, sd, bt, lt, lo, ct, rk, ad, sp, gd, rf, sm, js, sn, wl, vl, bg, cm)) H := hP
    have hD : va_D A (wM c0 a (1, n, wk, sd, bt, lt, lo, ct, rk, ad, sp, gd, rf, sm, js, sn, wl, vl, bg, cm)) := hD
    exact W.iret (v := 0) hx hb hr (fun t ht hW => ⟨⟨0, (1, n, wk, sd, bt, lt, lo, ct, rk, ad, sp, gd, rf, sm, js, sn, wl, vl, bg, cm), rfl, (by simp only [m_fails, eq_true c_5, ↓reduceIte]), by rw [ht]; exact hP, va_K.moved hW.alike hK, hD⟩, hS.F ht⟩) hS.2.2 dM0_fails_13
set_option maxHeartbeats 4000000 in
set_option maxRecDepth 100000 in
/-- act -/
theorem c_M0_act (l : Launch) (dC : Nat → ClassId) (dI : Nat → Nat → Nat) (c0 : ClassId) (a : Nat → Nat) (sz : Nat) (th : Int32) (n : Nat) (wk sd bt lt lo : Nat → Int32) (ct : Nat) (rk ad : Nat → Int32) (sp gd rf : Int32) (sm : Int64) (js sn wl : Int32) (vl bg cm : Nat → Int32) (k : Int32) (v : Int32) (hct9 : ct ≤ 24) : Met l yM0_act wsM0_act ({ frames := 1, cells := 0, slots := 0, locals := 25 }) (va_Pc [.ref (a 0), .int k, .int v] (PM dC dI c0 a (th, n, wk, sd, bt, lt, lo, ct, rk, ad, sp, gd, rf, sm, js, sn, wl, vl, bg, cm) sz)) (va_Qi (fun (r : Int32) (u : mS) => m_act (th, n, wk, sd, bt, lt, lo, ct, rk, ad, sp, gd, rf, sm, js, sn, wl, vl, bg, cm) k v = (r, u)) (BM dC dI c0 a (va_A (wM c0 a (th, n, wk, sd, bt, lt, lo, ct, rk, ad, sp, gd, rf, sm, js, sn, wl, vl, bg, cm)) sz)) (va_A (wM c0 a (th, n, wk, sd, bt, lt, lo, ct, rk, ad, sp, gd, rf, sm, js, sn, wl, vl, bg, cm)) sz)) 0 0 (va_A (wM c0 a (th, n, wk, sd, bt, lt, lo, ct, rk, ad, sp, gd, rf, sm, js, sn, wl, vl, bg, cm)) sz) := by
  refine Met.ofW (cc := cM0_act) (maxL := 3) (ret := (some .int)) (by decide) rfl ?_
  intro p e s m args below meth c s₁ B hml hv
  obtain ⟨rfl, hsz, hP, hK, hD0, hE⟩ := hv
  have hx := B.exec
  have hb := B.bytes
  have hr := B.returns
  have hown : s.vm.findClass RM0 = some m.cls := findClass_of_methodNamed B.named
  have hlocks := B.notSynchronized
  subst hsz
  have hD := hD0.self (sz := s.heap.size)
  generalize hAe : va_A (wM c0 a (th, n, wk, sd, bt, lt, lo, ct, rk, ad, sp, gd, rf, sm, js, sn, wl, vl, bg, cm)) s.heap.size = A at hD hE ⊢
  have hts := hE.ts (args := ([.ref (a 0), .int k, .int v] : List Value).toArray)
  have hA : ∀ q : Nat, s.heap.size ≤ q → A q := fun q h => by rw [← hAe]; exact Or.inr h
  have hS : va_S A s.heap s.heap [] := va_S.rf
  have hP : va_P (dC, dI) vwCl (wM c0 a (th, n, wk, sd, bt, lt, lo, ct, rk, ad, sp, gd, rf, sm, js, sn, wl, vl, bg, cm)) s.heap := hP
  have hl := lv_entry ([.ref (a 0), .int k, .int v]) (n := 3) (Nat.le_of_ble_eq_true rfl)
  rw [lg_entry_eq]
  generalize (lg_sl ([.ref (a 0), .int k, .int v]) ++ List.replicate (3 - (lg_sl ([.ref (a 0), .int k, .int v])).length) Slot.unset).toArray = ls at hl ⊢
  have hl : lv_has ls 3 [(0, .ref (a 0)), (1, .int k), (2, .int v)] := hl
  refine lv_iload_n hx hb dM0_act_0 rfl (lv_at hl 1 rfl) ?_
  refine lv_iconst (v := 0) hx hb dM0_act_1 (by decide) ?_
  refine lv_aload_n hx hb dM0_act_2 rfl (lv_at hl 0 rfl) ?_
  refine va_get (D := (dC, dI)) (ci := 4) (v := .int (nI n)) (C := RM0) (T := TM0) (N := 20) hx hb hts inM0 hown hK hP 0 rfl rfl 1 (by decide) (hE.t m_428 rfl) (fun _ h9 => h9) rfl dM0_act_3 ?_
  have hFc := fre hD hS hA
  refine va_calli (va_runS (As := [.int k, .int 0, .int (nI n)]) (rest := []) ⟨hx, hb, hml, hown, hts⟩ (c_M0_in l dC dI c0 a _ th n wk sd bt lt lo ct rk ad sp gd rf sm js sn wl vl bg cm k 0 (nI n)) (va_cwS 3 hts gM0_act_M0_in rfl rfl rfl (by decide +kernel) ⟨(Nat.le_of_ble_eq_true rfl), (Nat.le_of_ble_eq_true rfl)⟩) ⟨PM_blind, PM_give hP hK hD hE hS hFc⟩ rfl rfl hl.1 rfl (lv_room (Nat.le_of_ble_eq_true rfl)) dM0_act_6 ⟨by decide, by decide⟩) hS (fun q _ h => hFc q h) hFc (fun r_6 u t H1 locs ht hvm hw hB hz1 hk1 hS => ?_)
  obtain ⟨rfl, rfl⟩ := hw
  obtain ⟨hP, hD⟩ := PM_take ht hFc hB
  generalize H1 = H at hP hS ⊢
  have hP : va_P (dC, dI) vwCl (wM c0 a (th, n, wk, sd, bt, lt, lo, ct, rk, ad, sp, gd, rf, sm, js, sn, wl, vl, bg, cm)) H := hP
  have hD : va_D A (wM c0 a (th, n, wk, sd, bt, lt, lo, ct, rk, ad, sp, gd, rf, sm, js, sn, wl, vl, bg, cm)) := hD
  refine lv_if_ne (tgt := 18) hx hb dM0_act_9 (by decide) (fun c_9 => ?_) (fun c_9 => ?_)
  · skip
    refine lv_aload_n hx hb dM0_act_18 rfl (lv_at hl 0 rfl) ?_
    refine va_get (D := (dC, dI)) (ci := 4) (v := .int (nI ct)) (C := RM0) (T := TM0) (N := 20) hx hb hts inM0 hown hK hP 0 rfl rfl 7 (by decide) (hE.t m_434 rfl) (fun _ h9 => h9) rfl dM0_act_19 ?_
    refine lv_bipush (v := 24) hx hb dM0_act_22 (by decide) ?_
    refine lv_icmp_ne (tgt := 33) hx hb dM0_act_24 (by decide) (fun c_24 => ?_) (fun c_24 => ?_)
    · skip
      have hct : ct < 24 := ct_ne hct9 c_24
      refine lv_aload_n hx hb dM0_act_33 rfl (lv_at hl 0 rfl) ?_
      refine lv_iconst (v := 0) hx hb dM0_act_34 (by decide) ?_
      refine va_put (D := (dC, dI)) (ci := 4) (v := .int 0) (ty := .int) (C := RM0) (T := TM0) (N := 20) hx hb hts inM0 tyM0 tyM0_ok nmM0 hown hK hP hD hS 0 rfl rfl 0 (by decide) (hE.t m_427 rfl) (fun _ h9 => h9) rfl (by decide +kernel) rfl rfl (Nat.le_of_ble_eq_true rfl) dM0_act_35 (fun H locs hP hD hS => ?_)
      have hP : va_P (dC, dI) vwCl (wM c0 a (0, n, wk, sd, bt, lt, lo, ct, rk, ad, sp, gd, rf, sm, js, sn, wl, vl, bg, cm)) H := hP
      have hD : va_D A (wM c0 a (0, n, wk, sd, bt, lt, lo, ct, rk, ad, sp, gd, rf, sm, js, sn, wl, vl, bg, cm)) := hD
      refine lv_aload_n hx hb dM0_act_38 rfl (lv_at hl 0 rfl) ?_
      refine va_get (D := (dC, dI)) (ci := 4) (v := .ref (a 6)) (C := RM0) (T := TM0) (N := 20) hx hb hts inM0 hown hK hP 0 rfl rfl 8 (by decide) (hE.t m_435 rfl) (fun _ h9 => h9) rfl dM0_act_39 ?_
      refine lv_aload_n hx hb dM0_act_42 rfl (lv_at hl 0 rfl) ?_
      refine va_get (D := (dC, dI)) (ci := 4) (v := .int (nI ct)) (C := RM0) (T := TM0) (N := 20) hx hb hts inM0 hown hK hP 0 rfl rfl 7 (by decide) (hE.t m_434 rfl) (fun _ h9 => h9) rfl dM0_act_43 ?_
      refine lv_iload_n hx hb dM0_act_46 rfl (lv_at hl 1 rfl) ?_
      refine va_iast hx hb hK hP hD hS 6 0 rfl rfl (vp_in_nI (by omega) (by omega)) dM0_act_47 (fun H locs hP hD hS => ?_)
      rw [nI_clamp (n := ct) (by omega)] at hP hD
      have hP : va_P (dC, dI) vwCl (wM c0 a (0, n, wk, sd, bt, lt, lo, ct, upd rk ct k, ad, sp, gd, rf, sm, js, sn, wl, vl, bg, cm)) H := hP
      have hD : va_D A (wM c0 a (0, n, wk, sd, bt, lt, lo, ct, upd rk ct k, ad, sp, gd, rf, sm, js, sn, wl, vl, bg, cm)) := hD
      refine lv_aload_n hx hb dM0_act_48 rfl (lv_at hl 0 rfl) ?_
      refine va_get (D := (dC, dI)) (ci := 4) (v := .ref (a 7)) (C := RM0) (T := TM0) (N := 20) hx hb hts inM0 hown hK hP 0 rfl rfl 9 (by decide) (hE.t m_436 rfl) (fun _ h9 => h9) rfl dM0_act_49 ?_
      refine lv_aload_n hx hb dM0_act_52 rfl (lv_at hl 0 rfl) ?_
      refine va_get (D := (dC, dI)) (ci := 4) (v := .int (nI ct)) (C := RM0) (T := TM0) (N := 20) hx hb hts inM0 hown hK hP 0 rfl rfl 7 (by decide) (hE.t m_434 rfl) (fun _ h9 => h9) rfl dM0_act_53 ?_
      refine lv_iload_n hx hb dM0_act_56 rfl (lv_at hl 2 rfl) ?_
      refine va_iast hx hb hK hP hD hS 7 0 rfl rfl (vp_in_nI (by omega) (by omega)) dM0_act_57 (fun H locs hP hD hS => ?_)
      rw [nI_clamp (n := ct) (by omega)] at hP hD
      have hP : va_P (dC, dI) vwCl (wM c0 a (0, n, wk, sd, bt, lt, lo, ct, upd rk ct k, upd ad ct v, sp, gd, rf, sm, js, sn, wl, vl, bg, cm)) H := hP
      have hD : va_D A (wM c0 a (0, n, wk, sd, bt, lt, lo, ct, upd rk ct k, upd ad ct v, sp, gd, rf, sm, js, sn, wl, vl, bg, cm)) := hD
      refine lv_aload_n hx hb dM0_act_58 rfl (lv_at hl 0 rfl) ?_
      refine lv_dup hx hb dM0_act_59 rfl ?_
      refine va_get (D := (dC, dI)) (ci := 4) (v := .int (nI ct)) (C := RM0) (T := TM0) (N := 20) hx hb hts inM0 hown hK hP 0 rfl rfl 7 (by decide) (hE.t m_434 rfl) (fun _ h9 => h9) rfl dM0_act_60 ?_
      refine lv_iconst (v := 1) hx hb dM0_act_63 (by decide) ?_
      refine lv_iadd hx hb dM0_act_64 ?_
      rw [nI_1]
      refine va_put (D := (dC, dI)) (ci := 4) (v := .int (nI (ct + 1))) (ty := .int) (C := RM0) (T := TM0) (N := 20) hx hb hts inM0 tyM0 tyM0_ok nmM0 hown hK hP hD hS 0 rfl rfl 7 (by decide) (hE.t m_434 rfl) (fun _ h9 => h9) rfl (by decide +kernel) rfl rfl (Nat.le_of_ble_eq_true rfl) dM0_act_65 (fun H locs hP hD hS => ?_)
      have hP : va_P (dC, dI) vwCl (wM c0 a (0, n, wk, sd, bt, lt, lo, ct + 1, upd rk ct k, upd ad ct v, sp, gd, rf, sm, js, sn, wl, vl, bg, cm)) H := hP
      have hD : va_D A (wM c0 a (0, n, wk, sd, bt, lt, lo, ct + 1, upd rk ct k, upd ad ct v, sp, gd, rf, sm, js, sn, wl, vl, bg, cm)) := hD
      refine lv_aload_n hx hb dM0_act_68 rfl (lv_at hl 0 rfl) ?_
      refine va_get (D := (dC, dI)) (ci := 4) (v := .int (nI (ct + 1))) (C := RM0) (T := TM0) (N := 20) hx hb hts inM0 hown hK hP 0 rfl rfl 7 (by decide) (hE.t m_434 rfl) (fun _ h9 => h9) rfl dM0_act_69 ?_
      refine lv_iconst (v := 1) hx hb dM0_act_72 (by decide) ?_
      refine lv_isub hx hb dM0_act_73 ?_
      rw [nI_pred]
      exact W.iret (v := nI ct) hx hb hr (fun t ht hW => ⟨⟨nI ct, (0, n, wk, sd, bt, lt, lo, ct + 1, upd rk ct k, upd ad ct v, sp, gd, rf, sm, js, sn, wl, vl, bg, cm), rfl, (by simp only [m_act, c_9, c_24, ↓reduceIte]), by rw [ht]; exact hP, va_K.moved hW.alike hK, hD⟩, hS.F ht⟩) hS.2.2 dM0_act_74
    · skip
      refine lv_aload_n hx hb dM0_act_27 rfl (lv_at hl 0 rfl) ?_
      refine lv_iconst (v := 2) hx hb dM0_act_28 (by decide) ?_
      have hFc := fre hD hS hA
      refine va_calli (va_runV (As := [.int 2]) (rest := []) ⟨hx, hb, hml, hown, hts⟩ (c_M0_refuse l dC dI c0 a _ th n wk sd bt lt lo ct rk ad sp gd rf sm js sn wl vl bg cm 2) (cwV 1 hts gM0_act_M0_refuse rfl rfl rfl (by decide +kernel) ⟨(Nat.le_of_ble_eq_true rfl), (Nat.le_of_ble_eq_true rfl)⟩) ⟨PM_blind, va_recv hK hP (ci := 4) (q0 := 0) rfl rfl, PM_give hP hK hD hE hS hFc⟩ rfl rfl hl.1 rfl (lv_room (Nat.le_of_ble_eq_true rfl)) dM0_act_29 ⟨by decide, by decide⟩) hS (fun q _ h => hFc q h) hFc (fun r_29 u t H1 locs ht hvm hw hB hz1 hk1 hS => ?_)
      obtain ⟨rfl, rfl⟩ := hw
      obtain ⟨hP, hD⟩ := PM_take ht hFc hB
      generalize H1 = H at hP hS ⊢
      have hP : va_P (dC, dI) vwCl (wM c0 a (2, n, wk, sd, bt, lt, lo, ct, rk, ad, sp, gd, rf, sm, js, sn, wl, vl, bg, cm)) H := hP
      have hD : va_D A (wM c0 a (2, n, wk, sd, bt, lt, lo, ct, rk, ad, sp, gd, rf, sm, js, sn, wl, vl, bg, cm)) := hD
      exact W.iret (v := 0) hx hb hr (fun t ht hW => ⟨⟨0, (2, n, wk, sd, bt, lt, lo, ct, rk, ad, sp, gd, rf, sm, js, sn, wl, vl, bg, cm), rfl, (by simp only [m_act, c_9, eq_true c_24, ↓reduceIte]), by rw [ht]; exact hP, va_K.moved hW.alike hK, hD⟩, hS.F ht⟩) hS.2.2 dM0_act_32
  · skip
    refine lv_aload_n hx hb dM0_act_12 rfl (lv_at hl 0 rfl) ?_
    refine lv_iconst (v := 1) hx hb dM0_act_13 (by decide) ?_
    have hFc := fre hD hS hA
    refine va_calli (va_runV (As := [.int 1]) (rest := []) ⟨hx, hb, hml, hown, hts⟩ (c_M0_refuse l dC dI c0 a _ th n wk sd bt lt lo ct rk ad sp gd rf sm js sn wl vl bg cm 1) (cwV 1 hts gM0_act_M0_refuse rfl rfl rfl (by decide +kernel) ⟨(Nat.le_of_ble_eq_true rfl), (Nat.le_of_ble_eq_true rfl)⟩) ⟨PM_blind, va_recv hK hP (ci := 4) (q0 := 0) rfl rfl, PM_give hP hK hD hE hS hFc⟩ rfl rfl hl.1 rfl (lv_room (Nat.le_of_ble_eq_true rfl)) dM0_act_14 ⟨by decide, by decide⟩) hS (fun q _ h => hFc q h) hFc (fun r_14 u t H1 locs ht hvm hw hB hz1 hk1 hS => ?_)
    obtain ⟨rfl, rfl⟩ := hw
    obtain ⟨hP, hD⟩ := PM_take ht hFc hB
    generalize H1 = H at hP hS ⊢
    have hP : va_P (dC, dI) vwCl (wM c0 a (1, n, wk, sd, bt, lt, lo, ct, rk, ad, sp, gd, rf, sm, js, sn, wl, vl, bg, cm)) H := hP
    have hD : va_D A (wM c0 a (1, n, wk, sd, bt, lt, lo, ct, rk, ad, sp, gd, rf, sm, js, sn, wl, vl, bg, cm)) := hD
    exact W.iret (v := 0) hx hb hr (fun t ht hW => ⟨⟨0, (1, n, wk, sd, bt, lt, lo, ct, rk, ad, sp, gd, rf, sm, js, sn, wl, vl, bg, cm), rfl, (by simp only [m_act, eq_true c_9, ↓reduceIte]), by rw [ht]; exact hP, va_K.moved hW.alike hK, hD⟩, hS.F ht⟩) hS.2.2 dM0_act_17
set_option maxHeartbeats 4000000 in
set_option maxRecDepth 100000 in
/-- stop -/
theorem c_M0_stop (l : Launch) (dC : Nat → ClassId) (dI : Nat → Nat → Nat) (c0 : ClassId) (a : Nat → Nat) (sz : Nat) (th : Int32) (n : Nat) (wk sd bt lt lo : Nat → Int32) (ct : Nat) (rk ad : Nat → Int32) (sp gd rf : Int32) (sm : Int64) (js sn wl : Int32) (vl bg cm : Nat → Int32) (k : Int32) : Met l yM0_stop wsM0_stop ({ frames := 1, cells := 0, slots := 0, locals := 25 }) (va_Pc [.ref (a 0), .int k] (PM dC dI c0 a (th, n, wk, sd, bt, lt, lo, ct, rk, ad, sp, gd, rf, sm, js, sn, wl, vl, bg, cm) sz)) (va_Qi (fun (r : Int32) (u : mS) => m_stop (th, n, wk, sd, bt, lt, lo, ct, rk, ad, sp, gd, rf, sm, js, sn, wl, vl, bg, cm) k = (r, u)) (BM dC dI c0 a (va_A (wM c0 a (th, n, wk, sd, bt, lt, lo, ct, rk, ad, sp, gd, rf, sm, js, sn, wl, vl, bg, cm)) sz)) (va_A (wM c0 a (th, n, wk, sd, bt, lt, lo, ct, rk, ad, sp, gd, rf, sm, js, sn, wl, vl, bg, cm)) sz)) 0 0 (va_A (wM c0 a (th, n, wk, sd, bt, lt, lo, ct, rk, ad, sp, gd, rf, sm, js, sn, wl, vl, bg, cm)) sz) := by
  refine Met.ofW (cc := cM0_stop) (maxL := 3) (ret := (some .int)) (by decide) rfl ?_
  intro p e s m args below meth c s₁ B hml hv
  obtain ⟨rfl, hsz, hP, hK, hD0, hE⟩ := hv
  have hx := B.exec
  have hb := B.bytes
  have hr := B.returns
  have hown : s.vm.findClass RM0 = some m.cls := findClass_of_methodNamed B.named
  have hlocks := B.notSynchronized
  subst hsz
  have hD := hD0.self (sz := s.heap.size)
  generalize hAe : va_A (wM c0 a (th, n, wk, sd, bt, lt, lo, ct, rk, ad, sp, gd, rf, sm, js, sn, wl, vl, bg, cm)) s.heap.size = A at hD hE ⊢
  have hts := hE.ts (args := ([.ref (a 0), .int k] : List Value).toArray)
  have hA : ∀ q : Nat, s.heap.size ≤ q → A q := fun q h => by rw [← hAe]; exact Or.inr h
  have hS : va_S A s.heap s.heap [] := va_S.rf
  have hP : va_P (dC, dI) vwCl (wM c0 a (th, n, wk, sd, bt, lt, lo, ct, rk, ad, sp, gd, rf, sm, js, sn, wl, vl, bg, cm)) s.heap := hP
  have hl := lv_entry ([.ref (a 0), .int k]) (n := 3) (Nat.le_of_ble_eq_true rfl)
  rw [lg_entry_eq]
  generalize (lg_sl ([.ref (a 0), .int k]) ++ List.replicate (3 - (lg_sl ([.ref (a 0), .int k])).length) Slot.unset).toArray = ls at hl ⊢
  have hl : lv_has ls 3 [(0, .ref (a 0)), (1, .int k)] := hl
  refine lv_iload_n hx hb dM0_stop_0 rfl (lv_at hl 1 rfl) ?_
  refine lv_iconst (v := (-1)) hx hb dM0_stop_1 (by decide) ?_
  refine lv_icmp_eq (tgt := 19) hx hb dM0_stop_2 (by decide) (fun c_2 => ?_) (fun c_2 => ?_)
  · skip
    refine lv_aload_n hx hb dM0_stop_19 rfl (lv_at hl 0 rfl) ?_
    refine lv_iconst (v := 0) hx hb dM0_stop_20 (by decide) ?_
    refine va_put (D := (dC, dI)) (ci := 4) (v := .int 0) (ty := .int) (C := RM0) (T := TM0) (N := 20) hx hb hts inM0 tyM0 tyM0_ok nmM0 hown hK hP hD hS 0 rfl rfl 0 (by decide) (hE.t m_427 rfl) (fun _ h9 => h9) rfl (by decide +kernel) rfl rfl (Nat.le_of_ble_eq_true rfl) dM0_stop_21 (fun H locs hP hD hS => ?_)
    have hP : va_P (dC, dI) vwCl (wM c0 a (0, n, wk, sd, bt, lt, lo, ct, rk, ad, sp, gd, rf, sm, js, sn, wl, vl, bg, cm)) H := hP
    have hD : va_D A (wM c0 a (0, n, wk, sd, bt, lt, lo, ct, rk, ad, sp, gd, rf, sm, js, sn, wl, vl, bg, cm)) := hD
    refine lv_aload_n hx hb dM0_stop_24 rfl (lv_at hl 0 rfl) ?_
    refine va_get (D := (dC, dI)) (ci := 4) (v := .int sp) (C := RM0) (T := TM0) (N := 20) hx hb hts inM0 hown hK hP 0 rfl rfl 10 (by decide) (hE.t m_437 rfl) (fun _ h9 => h9) rfl dM0_stop_25 ?_
    refine lv_istore_n (lv' := [(2, .int sp), (0, .ref (a 0)), (1, .int k)]) hx hb dM0_stop_28 rfl hl (by decide) rfl (fun ls hl => ?_)
    refine lv_aload_n hx hb dM0_stop_29 rfl (lv_at hl 1 rfl) ?_
    refine lv_iload_n hx hb dM0_stop_30 rfl (lv_at hl 2 rfl) ?_
    refine va_put (D := (dC, dI)) (ci := 4) (v := .int k) (ty := .int) (C := RM0) (T := TM0) (N := 20) hx hb hts inM0 tyM0 tyM0_ok nmM0 hown hK hP hD hS 0 rfl rfl 10 (by decide) (hE.t m_437 rfl) (fun _ h9 => h9) rfl (by decide +kernel) rfl rfl (Nat.le_of_ble_eq_true rfl) dM0_stop_31 (fun H locs hP hD hS => ?_)
    have hP : va_P (dC, dI) vwCl (wM c0 a (0, n, wk, sd, bt, lt, lo, ct, rk, ad, k, gd, rf, sm, js, sn, wl, vl, bg, cm)) H := hP
    have hD : va_D A (wM c0 a (0, n, wk, sd, bt, lt, lo, ct, rk, ad, k, gd, rf, sm, js, sn, wl, vl, bg, cm)) := hD
    refine lv_iload_n hx hb dM0_stop_34 rfl (lv_at hl 0 rfl) ?_
    exact W.iret (v := sp) hx hb hr (fun t ht hW => ⟨⟨sp, (0, n, wk, sd, bt, lt, lo, ct, rk, ad, k, gd, rf, sm, js, sn, wl, vl, bg, cm), rfl, (by simp only [m_stop, eq_true c_2, ↓reduceIte]), by rw [ht]; exact hP, va_K.moved hW.alike hK, hD⟩, hS.F ht⟩) hS.2.2 dM0_stop_35
  · skip
    refine lv_aload_n hx hb dM0_stop_5 rfl (lv_at hl 0 rfl) ?_
    refine lv_iload_n hx hb dM0_stop_6 rfl (lv_at hl 1 rfl) ?_
    have hFc := fre hD hS hA
    refine va_calli (va_runV (As := [.int k]) (rest := []) ⟨hx, hb, hml, hown, hts⟩ (c_M0_isShare l dC dI c0 a _ th n wk sd bt lt lo ct rk ad sp gd rf sm js sn wl vl bg cm k) (cwV 1 hts gM0_stop_M0_isShare rfl rfl rfl (by decide +kernel) ⟨(Nat.le_of_ble_eq_true rfl), (Nat.le_of_ble_eq_true rfl)⟩) ⟨PM_blind, va_recv hK hP (ci := 4) (q0 := 0) rfl rfl, PM_give hP hK hD hE hS hFc⟩ rfl rfl hl.1 rfl (lv_room (Nat.le_of_ble_eq_true rfl)) dM0_stop_7 ⟨by decide, by decide⟩) hS (fun q _ h => hFc q h) hFc (fun r_7 u t H1 locs ht hvm hw hB hz1 hk1 hS => ?_)
    obtain ⟨rfl, rfl⟩ := hw
    obtain ⟨hP, hD⟩ := PM_take ht hFc hB
    generalize H1 = H at hP hS ⊢
    have hP : va_P (dC, dI) vwCl (wM c0 a (th, n, wk, sd, bt, lt, lo, ct, rk, ad, sp, gd, rf, sm, js, sn, wl, vl, bg, cm)) H := hP
    have hD : va_D A (wM c0 a (th, n, wk, sd, bt, lt, lo, ct, rk, ad, sp, gd, rf, sm, js, sn, wl, vl, bg, cm)) := hD
    refine lv_if_ne (tgt := 19) hx hb dM0_stop_10 (by decide) (fun c_10 => ?_) (fun c_10 => ?_)
    · skip
      refine lv_aload_n hx hb dM0_stop_19 rfl (lv_at hl 0 rfl) ?_
      refine lv_iconst (v := 0) hx hb dM0_stop_20 (by decide) ?_
      refine va_put (D := (dC, dI)) (ci := 4) (v := .int 0) (ty := .int) (C := RM0) (T := TM0) (N := 20) hx hb hts inM0 tyM0 tyM0_ok nmM0 hown hK hP hD hS 0 rfl rfl 0 (by decide) (hE.t m_427 rfl) (fun _ h9 => h9) rfl (by decide +kernel) rfl rfl (Nat.le_of_ble_eq_true rfl) dM0_stop_21 (fun H locs hP hD hS => ?_)
      have hP : va_P (dC, dI) vwCl (wM c0 a (0, n, wk, sd, bt, lt, lo, ct, rk, ad, sp, gd, rf, sm, js, sn, wl, vl, bg, cm)) H := hP
      have hD : va_D A (wM c0 a (0, n, wk, sd, bt, lt, lo, ct, rk, ad, sp, gd, rf, sm, js, sn, wl, vl, bg, cm)) := hD
      refine lv_aload_n hx hb dM0_stop_24 rfl (lv_at hl 0 rfl) ?_
      refine va_get (D := (dC, dI)) (ci := 4) (v := .int sp) (C := RM0) (T := TM0) (N := 20) hx hb hts inM0 hown hK hP 0 rfl rfl 10 (by decide) (hE.t m_437 rfl) (fun _ h9 => h9) rfl dM0_stop_25 ?_
      refine lv_istore_n (lv' := [(2, .int sp), (0, .ref (a 0)), (1, .int k)]) hx hb dM0_stop_28 rfl hl (by decide) rfl (fun ls hl => ?_)
      refine lv_aload_n hx hb dM0_stop_29 rfl (lv_at hl 1 rfl) ?_
      refine lv_iload_n hx hb dM0_stop_30 rfl (lv_at hl 2 rfl) ?_
      refine va_put (D := (dC, dI)) (ci := 4) (v := .int k) (ty := .int) (C := RM0) (T := TM0) (N := 20) hx hb hts inM0 tyM0 tyM0_ok nmM0 hown hK hP hD hS 0 rfl rfl 10 (by decide) (hE.t m_437 rfl) (fun _ h9 => h9) rfl (by decide +kernel) rfl rfl (Nat.le_of_ble_eq_true rfl) dM0_stop_31 (fun H locs hP hD hS => ?_)
      have hP : va_P (dC, dI) vwCl (wM c0 a (0, n, wk, sd, bt, lt, lo, ct, rk, ad, k, gd, rf, sm, js, sn, wl, vl, bg, cm)) H := hP
      have hD : va_D A (wM c0 a (0, n, wk, sd, bt, lt, lo, ct, rk, ad, k, gd, rf, sm, js, sn, wl, vl, bg, cm)) := hD
      refine lv_iload_n hx hb dM0_stop_34 rfl (lv_at hl 0 rfl) ?_
      exact W.iret (v := sp) hx hb hr (fun t ht hW => ⟨⟨sp, (0, n, wk, sd, bt, lt, lo, ct, rk, ad, k, gd, rf, sm, js, sn, wl, vl, bg, cm), rfl, (by simp only [m_stop, c_2, c_10, ↓reduceIte]), by rw [ht]; exact hP, va_K.moved hW.alike hK, hD⟩, hS.F ht⟩) hS.2.2 dM0_stop_35
    · skip
      refine lv_aload_n hx hb dM0_stop_13 rfl (lv_at hl 0 rfl) ?_
      refine lv_iconst (v := 1) hx hb dM0_stop_14 (by decide) ?_
      have hFc := fre hD hS hA
      refine va_calli (va_runV (As := [.int 1]) (rest := []) ⟨hx, hb, hml, hown, hts⟩ (c_M0_refuse l dC dI c0 a _ th n wk sd bt lt lo ct rk ad sp gd rf sm js sn wl vl bg cm 1) (cwV 1 hts gM0_stop_M0_refuse rfl rfl rfl (by decide +kernel) ⟨(Nat.le_of_ble_eq_true rfl), (Nat.le_of_ble_eq_true rfl)⟩) ⟨PM_blind, va_recv hK hP (ci := 4) (q0 := 0) rfl rfl, PM_give hP hK hD hE hS hFc⟩ rfl rfl hl.1 rfl (lv_room (Nat.le_of_ble_eq_true rfl)) dM0_stop_15 ⟨by decide, by decide⟩) hS (fun q _ h => hFc q h) hFc (fun r_15 u t H1 locs ht hvm hw hB hz1 hk1 hS => ?_)
      obtain ⟨rfl, rfl⟩ := hw
      obtain ⟨hP, hD⟩ := PM_take ht hFc hB
      generalize H1 = H at hP hS ⊢
      have hP : va_P (dC, dI) vwCl (wM c0 a (1, n, wk, sd, bt, lt, lo, ct, rk, ad, sp, gd, rf, sm, js, sn, wl, vl, bg, cm)) H := hP
      have hD : va_D A (wM c0 a (1, n, wk, sd, bt, lt, lo, ct, rk, ad, sp, gd, rf, sm, js, sn, wl, vl, bg, cm)) := hD
      exact W.iret (v := 0) hx hb hr (fun t ht hW => ⟨⟨0, (1, n, wk, sd, bt, lt, lo, ct, rk, ad, sp, gd, rf, sm, js, sn, wl, vl, bg, cm), rfl, (by simp only [m_stop, c_2, eq_true c_10, ↓reduceIte]), by rw [ht]; exact hP, va_K.moved hW.alike hK, hD⟩, hS.F ht⟩) hS.2.2 dM0_stop_18
set_option maxHeartbeats 4000000 in
set_option maxRecDepth 100000 in
/-- after(k, st) -/
theorem c_M0_after (l : Launch) (dC : Nat → ClassId) (dI : Nat → Nat → Nat) (c0 : ClassId) (a : Nat → Nat) (sz : Nat) (th : Int32) (n : Nat) (wk sd bt lt lo : Nat → Int32) (ct : Nat) (rk ad : Nat → Int32) (sp gd rf : Int32) (sm : Int64) (js sn wl : Int32) (vl bg cm : Nat → Int32) (k : Int32) (st : Int32) (hk : vp_in k 40) : Met l yM0_after wsM0_after ({ frames := 0, cells := 0, slots := 0, locals := 0 }) (va_Pc [.ref (a 0), .int k, .int st] (PM dC dI c0 a (th, n, wk, sd, bt, lt, lo, ct, rk, ad, sp, gd, rf, sm, js, sn, wl, vl, bg, cm) sz)) (va_Ql (fun (r : Int64) (u : mS) => u = (th, n, wk, sd, bt, lt, lo, ct, rk, ad, sp, gd, rf, sm, js, sn, wl, vl, bg, cm) ∧ r = chx (sd k.toNatClampNeg) k st.toNatClampNeg) (BM dC dI c0 a (va_A (wM c0 a (th, n, wk, sd, bt, lt, lo, ct, rk, ad, sp, gd, rf, sm, js, sn, wl, vl, bg, cm)) sz)) (va_A (wM c0 a (th, n, wk, sd, bt, lt, lo, ct, rk, ad, sp, gd, rf, sm, js, sn, wl, vl, bg, cm)) sz)) 0 0 (va_A (wM c0 a (th, n, wk, sd, bt, lt, lo, ct, rk, ad, sp, gd, rf, sm, js, sn, wl, vl, bg, cm)) sz) := by
  refine Met.ofW (cc := cM0_after) (maxL := 6) (ret := (some .long)) (by decide) rfl ?_
  intro p e s m args below meth c s₁ B hml hv
  obtain ⟨rfl, hsz, hP, hK, hD0, hE⟩ := hv
  have hx := B.exec
  have hb := B.bytes
  have hr := B.returns
  have hown : s.vm.findClass RM0 = some m.cls := findClass_of_methodNamed B.named
  have hlocks := B.notSynchronized
  subst hsz
  have hD := hD0.self (sz := s.heap.size)
  generalize hAe : va_A (wM c0 a (th, n, wk, sd, bt, lt, lo, ct, rk, ad, sp, gd, rf, sm, js, sn, wl, vl, bg, cm)) s.heap.size = A at hD hE ⊢
  have hts := hE.ts (args := ([.ref (a 0), .int k, .int st] : List Value).toArray)
  have hA : ∀ q : Nat, s.heap.size ≤ q → A q := fun q h => by rw [← hAe]; exact Or.inr h
  have hS : va_S A s.heap s.heap [] := va_S.rf
  have hP : va_P (dC, dI) vwCl (wM c0 a (th, n, wk, sd, bt, lt, lo, ct, rk, ad, sp, gd, rf, sm, js, sn, wl, vl, bg, cm)) s.heap := hP
  refine gz (P := fun Z => W p l e _ s m _ below meth c _ _ _ _ Z _) (fun Z hZ => ?_)
  show W p l e _ s m _ below meth c _ _ _ _ Z _
  have hl := lv_entry ([.ref (a 0), .int k, .int st]) (n := 6) (Nat.le_of_ble_eq_true rfl)
  rw [lg_entry_eq]
  generalize (lg_sl ([.ref (a 0), .int k, .int st]) ++ List.replicate (6 - (lg_sl ([.ref (a 0), .int k, .int st])).length) Slot.unset).toArray = ls at hl ⊢
  have hl : lv_has ls 6 [(0, .ref (a 0)), (1, .int k), (2, .int st)] := hl
  refine lv_ldc2 hx hb (own := RM0) (v := 2654435761) hown (hE.t m_527 rfl) dM0_after_0 ?_
  refine lv_aload_n hx hb dM0_after_3 rfl (lv_at hl 0 rfl) ?_
  refine va_get (D := (dC, dI)) (ci := 4) (v := .ref (a 2)) (C := RM0) (T := TM0) (N := 20) hx hb hts inM0 hown hK hP 0 rfl rfl 3 (by decide) (hE.t m_430 rfl) (fun _ h9 => h9) rfl dM0_after_4 ?_
  refine lv_iload_n hx hb dM0_after_7 rfl (lv_at hl 1 rfl) ?_
  refine va_iald hx hb hK hP 2 0 rfl rfl hk dM0_after_8 ?_
  refine lv_i2l hx hb dM0_after_9 (v := (sd k.toNatClampNeg).toInt64) rfl ?_
  refine lv_lmul hx hb dM0_after_10 ?_
  refine lv_iload_n hx hb dM0_after_11 rfl (lv_at hl 1 rfl) ?_
  refine lv_i2l hx hb dM0_after_12 (v := k.toInt64) rfl ?_
  refine lv_ladd hx hb dM0_after_13 ?_
  refine lv_lstore_n (lv' := [(3, .long ((2654435761 * ((sd k.toNatClampNeg).toInt64)) + k.toInt64)), (0, .ref (a 0)), (1, .int k), (2, .int st)]) hx hb dM0_after_14 rfl hl (by decide) rfl (fun ls hl => ?_)
  refine lv_iconst (v := 0) hx hb dM0_after_15 (by decide) ?_
  refine lv_istore (lv' := [(5, .int 0), (3, .long ((2654435761 * ((sd k.toNatClampNeg).toInt64)) + k.toInt64)), (0, .ref (a 0)), (1, .int k), (2, .int st)]) hx hb dM0_after_16 hl (by decide) rfl (fun ls hl => ?_)
  have hloop18 : ∀ (fu : Nat) (i : Nat), st.toNatClampNeg + 1 ≤ i + fu → i ≤ st.toNatClampNeg → ∀ (H : Heap) (locs : List Loc) (ls : Array Slot), va_P (dC, dI) vwCl (wM c0 a (th, n, wk, sd, bt, lt, lo, ct, rk, ad, sp, gd, rf, sm, js, sn, wl, vl, bg, cm)) H → va_D A (wM c0 a (th, n, wk, sd, bt, lt, lo, ct, rk, ad, sp, gd, rf, sm, js, sn, wl, vl, bg, cm)) → va_S A s.heap H locs → lv_has ls 6 [(0, .ref (a 0)), (1, .int k), (2, .int st), (3, .long (chx (sd k.toNatClampNeg) k i)), (5, .int (nI i))] → W p l e (headSpec wsM0_after ({ frames := 0, cells := 0, slots := 0, locals := 0 })).room s m ([.ref (a 0), .int k, .int st] : List Value).toArray below meth c H locs 0 0 Z (F0 m 18 ls []) := by
    intro fu
    induction fu with
    | zero =>
      intro i hfu hi
      exact absurd hfu (by omega)
    | succ fu ih18 =>
      intro i hfu hi H locs ls hP hD hS hl
      refine lv_iload hx hb dM0_after_18 (lv_at hl 4 rfl) ?_
      refine lv_iload_n hx hb dM0_after_20 rfl (lv_at hl 2 rfl) ?_
      refine lv_icmp_ge (tgt := 40) hx hb dM0_after_21 (by decide) (fun c_21 => ?_) (fun c_21 => ?_)
      · skip
        have hie : i = st.toNatClampNeg := cl_eq hi c_21
        rw [hie] at hl
        refine lv_lload_n hx hb dM0_after_40 rfl (lv_at hl 3 rfl) ?_
        rw [hZ]
        exact W.lret (v := chx (sd k.toNatClampNeg) k st.toNatClampNeg) hx hb hr (fun t ht hW => ⟨⟨chx (sd k.toNatClampNeg) k st.toNatClampNeg, (th, n, wk, sd, bt, lt, lo, ct, rk, ad, sp, gd, rf, sm, js, sn, wl, vl, bg, cm), rfl, ⟨rfl, rfl⟩, by rw [ht]; exact hP, va_K.moved hW.alike hK, hD⟩, hS.F ht⟩) hS.2.2 dM0_after_41
      · skip
        have hlt : i < st.toNatClampNeg := cl_lt hi c_21
        refine lv_ldc2 hx hb (own := RM0) (v := 6364136223846793005) hown (hE.t m_528 rfl) dM0_after_24 ?_
        refine lv_lload_n hx hb dM0_after_27 rfl (lv_at hl 3 rfl) ?_
        refine lv_lmul hx hb dM0_after_28 ?_
        refine lv_ldc2 hx hb (own := RM0) (v := 1442695040888963407) hown (hE.t m_529 rfl) dM0_after_29 ?_
        refine lv_ladd hx hb dM0_after_32 ?_
        refine lv_lstore_n (lv' := [(3, .long ((6364136223846793005 * (chx (sd k.toNatClampNeg) k i)) + 1442695040888963407)), (0, .ref (a 0)), (1, .int k), (2, .int st), (5, .int (nI i))]) hx hb dM0_after_33 rfl hl (by decide) rfl (fun ls hl => ?_)
        refine lv_iinc (v := nI (i + 1)) (lv' := [(5, .int (nI (i + 1))), (3, .long ((6364136223846793005 * (chx (sd k.toNatClampNeg) k i)) + 1442695040888963407)), (0, .ref (a 0)), (1, .int k), (2, .int st)]) hx hb dM0_after_34 hl (k := 4) rfl (by rw [← nI_1]; rfl) (by decide) rfl (fun ls hl => ?_)
        refine lv_goto (tgt := 18) hx hb dM0_after_37 (by decide) ?_
        exact ih18 (i + 1) (by omega) (by omega) _ _ _ hP hD hS (lv_sub hl [2, 3, 4, 1, 0] rfl)
  have hl0 : lv_has ls 6 [(0, .ref (a 0)), (1, .int k), (2, .int st), (3, .long (chx (sd k.toNatClampNeg) k 0)), (5, .int (nI 0))] := by
    rw [nI_0]; exact lv_sub hl [2, 3, 4, 1, 0] rfl
  exact hloop18 (st.toNatClampNeg + 1) 0 (by omega) (by omega) _ _ _ hP hD hS hl0
set_option maxHeartbeats 4000000 in
set_option maxRecDepth 100000 in
/-- acted(x) -/
theorem c_M0_acted (l : Launch) (dC : Nat → ClassId) (dI : Nat → Nat → Nat) (c0 : ClassId) (a : Nat → Nat) (sz : Nat) (th : Int32) (n : Nat) (wk sd bt lt lo : Nat → Int32) (ct : Nat) (rk ad : Nat → Int32) (sp gd rf : Int32) (sm : Int64) (js sn wl : Int32) (vl bg cm : Nat → Int32) (x : Int32) (hct : ct ≤ 24) : Met l yM0_acted wsM0_acted ({ frames := 0, cells := 0, slots := 0, locals := 0 }) (va_Pc [.ref (a 0), .int x] (PM dC dI c0 a (th, n, wk, sd, bt, lt, lo, ct, rk, ad, sp, gd, rf, sm, js, sn, wl, vl, bg, cm) sz)) (va_Qv (fun (u : mS) => u = (th, n, wk, sd, bt, lt, lo, ct, rk, ad, sp, gd, rf, linS rk ad x sm ct, js, sn, wl, vl, bg, linC rk x cm ct)) (BM dC dI c0 a (va_A (wM c0 a (th, n, wk, sd, bt, lt, lo, ct, rk, ad, sp, gd, rf, sm, js, sn, wl, vl, bg, cm)) sz)) (va_A (wM c0 a (th, n, wk, sd, bt, lt, lo, ct, rk, ad, sp, gd, rf, sm, js, sn, wl, vl, bg, cm)) sz)) 0 0 (va_A (wM c0 a (th, n, wk, sd, bt, lt, lo, ct, rk, ad, sp, gd, rf, sm, js, sn, wl, vl, bg, cm)) sz) := by
  refine Met.ofW (cc := cM0_acted) (maxL := 3) (ret := none) (by decide) rfl ?_
  intro p e s m args below meth c s₁ B hml hv
  obtain ⟨rfl, hsz, hP, hK, hD0, hE⟩ := hv
  have hx := B.exec
  have hb := B.bytes
  have hr := B.returns
  have hown : s.vm.findClass RM0 = some m.cls := findClass_of_methodNamed B.named
  have hlocks := B.notSynchronized
  subst hsz
  have hD := hD0.self (sz := s.heap.size)
  generalize hAe : va_A (wM c0 a (th, n, wk, sd, bt, lt, lo, ct, rk, ad, sp, gd, rf, sm, js, sn, wl, vl, bg, cm)) s.heap.size = A at hD hE ⊢
  have hts := hE.ts (args := ([.ref (a 0), .int x] : List Value).toArray)
  have hA : ∀ q : Nat, s.heap.size ≤ q → A q := fun q h => by rw [← hAe]; exact Or.inr h
  have hS : va_S A s.heap s.heap [] := va_S.rf
  have hP : va_P (dC, dI) vwCl (wM c0 a (th, n, wk, sd, bt, lt, lo, ct, rk, ad, sp, gd, rf, sm, js, sn, wl, vl, bg, cm)) s.heap := hP
  refine gz (P := fun Z => W p l e _ s m _ below meth c _ _ _ _ Z _) (fun Z hZ => ?_)
  show W p l e _ s m _ below meth c _ _ _ _ Z _
  have hl := lv_entry ([.ref (a 0), .int x]) (n := 3) (Nat.le_of_ble_eq_true rfl)
  rw [lg_entry_eq]
  generalize (lg_sl ([.ref (a 0), .int x]) ++ List.replicate (3 - (lg_sl ([.ref (a 0), .int x])).length) Slot.unset).toArray = ls at hl ⊢
  have hl : lv_has ls 3 [(0, .ref (a 0)), (1, .int x)] := hl
  refine lv_iconst (v := 0) hx hb dM0_acted_0 (by decide) ?_
  refine lv_istore_n (lv' := [(2, .int 0), (0, .ref (a 0)), (1, .int x)]) hx hb dM0_acted_1 rfl hl (by decide) rfl (fun ls hl => ?_)
  have hloop2 : ∀ (fu : Nat) (i : Nat), ct + 1 ≤ i + fu → i ≤ ct → ∀ (H : Heap) (locs : List Loc) (ls : Array Slot), va_P (dC, dI) vwCl (wM c0 a (th, n, wk, sd, bt, lt, lo, ct, rk, ad, sp, gd, rf, linS rk ad x sm i, js, sn, wl, vl, bg, linC rk x cm i)) H → va_D A (wM c0 a (th, n, wk, sd, bt, lt, lo, ct, rk, ad, sp, gd, rf, linS rk ad x sm i, js, sn, wl, vl, bg, linC rk x cm i)) → va_S A s.heap H locs → lv_has ls 3 [(0, .ref (a 0)), (1, .int x), (2, .int (nI i))] → W p l e (headSpec wsM0_acted ({ frames := 0, cells := 0, slots := 0, locals := 0 })).room s m ([.ref (a 0), .int x] : List Value).toArray below meth c H locs 0 0 Z (F0 m 2 ls []) := by
    intro fu
    induction fu with
    | zero =>
      intro i hfu hi
      exact absurd hfu (by omega)
    | succ fu ih2 =>
      intro i hfu hi H locs ls hP hD hS hl
      refine lv_iload_n hx hb dM0_acted_2 rfl (lv_at hl 2 rfl) ?_
      refine lv_aload_n hx hb dM0_acted_3 rfl (lv_at hl 0 rfl) ?_
      refine va_get (D := (dC, dI)) (ci := 4) (v := .int (nI ct)) (C := RM0) (T := TM0) (N := 20) hx hb hts inM0 hown hK hP 0 rfl rfl 7 (by decide) (hE.t m_434 rfl) (fun _ h9 => h9) rfl dM0_acted_4 ?_
      refine lv_icmp_ge (tgt := 53) hx hb dM0_acted_7 (by decide) (fun c_7 => ?_) (fun c_7 => ?_)
      · skip
        have hie : i = ct := by
          have h9 := (nI_leI (a := ct) (b := i) (by omega) (by omega)).mp c_7
          omega
        rw [hie] at hP hD hl
        rw [hZ]
        exact W.vret hx hb hr (fun t ht hW => ⟨⟨(th, n, wk, sd, bt, lt, lo, ct, rk, ad, sp, gd, rf, linS rk ad x sm ct, js, sn, wl, vl, bg, linC rk x cm ct), rfl, rfl, by rw [ht]; exact hP, va_K.moved hW.alike hK, hD⟩, hS.F ht⟩) hS.2.2 dM0_acted_53
      · skip
        have hlt : i < ct := by
          rcases Nat.lt_or_ge i ct with h9 | h9
          · exact h9
          · exact absurd (nI_le h9 (by omega)) c_7
        refine lv_aload_n hx hb dM0_acted_10 rfl (lv_at hl 0 rfl) ?_
        refine va_get (D := (dC, dI)) (ci := 4) (v := .ref (a 6)) (C := RM0) (T := TM0) (N := 20) hx hb hts inM0 hown hK hP 0 rfl rfl 8 (by decide) (hE.t m_435 rfl) (fun _ h9 => h9) rfl dM0_acted_11 ?_
        refine lv_iload_n hx hb dM0_acted_14 rfl (lv_at hl 2 rfl) ?_
        refine va_iald hx hb hK hP 6 0 rfl rfl (vp_in_nI (by omega) (by omega)) dM0_acted_15 ?_
        rw [nI_clamp (n := i) (by omega)]
        refine lv_iload_n hx hb dM0_acted_16 rfl (lv_at hl 1 rfl) ?_
        refine lv_icmp_ne (tgt := 47) hx hb dM0_acted_17 (by decide) (fun c_17 => ?_) (fun c_17 => ?_)
        · skip
          refine lv_iinc (v := nI (i + 1)) (lv' := [(2, .int (nI (i + 1))), (0, .ref (a 0)), (1, .int x)]) hx hb dM0_acted_47 hl (k := 2) rfl (by rw [← nI_1]; rfl) (by decide) rfl (fun ls hl => ?_)
          refine lv_goto (tgt := 2) hx hb dM0_acted_50 (by decide) ?_
          have e1 : linS rk ad x sm (i + 1) = linS rk ad x sm i := by simp only [linS, c_17, ↓reduceIte]
          have e2 : linC rk x cm (i + 1) = linC rk x cm i := by simp only [linC, c_17, ↓reduceIte]
          rw [← e1, ← e2] at hP hD
          exact ih2 (i + 1) (by omega) (by omega) _ _ _ hP hD hS (lv_sub hl [1, 2, 0] rfl)
        · skip
          refine lv_aload_n hx hb dM0_acted_20 rfl (lv_at hl 0 rfl) ?_
          refine lv_ldc2 hx hb (own := RM0) (v := 31) hown (hE.t m_538 rfl) dM0_acted_21 ?_
          refine lv_aload_n hx hb dM0_acted_24 rfl (lv_at hl 0 rfl) ?_
          refine va_get (D := (dC, dI)) (ci := 4) (v := .long (linS rk ad x sm i)) (C := RM0) (T := TM0) (N := 20) hx hb hts inM0 hown hK hP 0 rfl rfl 13 (by decide) (hE.t m_440 rfl) (fun _ h9 => h9) rfl dM0_acted_25 ?_
          refine lv_lmul hx hb dM0_acted_28 ?_
          refine lv_aload_n hx hb dM0_acted_29 rfl (lv_at hl 0 rfl) ?_
          refine va_get (D := (dC, dI)) (ci := 4) (v := .ref (a 7)) (C := RM0) (T := TM0) (N := 20) hx hb hts inM0 hown hK hP 0 rfl rfl 9 (by decide) (hE.t m_436 rfl) (fun _ h9 => h9) rfl dM0_acted_30 ?_
          refine lv_iload_n hx hb dM0_acted_33 rfl (lv_at hl 2 rfl) ?_
          refine va_iald hx hb hK hP 7 0 rfl rfl (vp_in_nI (by omega) (by omega)) dM0_acted_34 ?_
          rw [nI_clamp (n := i) (by omega)]
          refine lv_i2l hx hb dM0_acted_35 (v := (ad i).toInt64) rfl ?_
          refine lv_ladd hx hb dM0_acted_36 ?_
          refine va_put (D := (dC, dI)) (ci := 4) (v := .long ((31 * (linS rk ad x sm i)) + ((ad i).toInt64))) (ty := .long) (C := RM0) (T := TM0) (N := 20) hx hb hts inM0 tyM0 tyM0_ok nmM0 hown hK hP hD hS 0 rfl rfl 13 (by decide) (hE.t m_440 rfl) (fun _ h9 => h9) rfl (by decide +kernel) rfl rfl (Nat.le_of_ble_eq_true rfl) dM0_acted_37 (fun H locs hP hD hS => ?_)
          have hP : va_P (dC, dI) vwCl (wM c0 a (th, n, wk, sd, bt, lt, lo, ct, rk, ad, sp, gd, rf, (31 * (linS rk ad x sm i)) + ((ad i).toInt64), js, sn, wl, vl, bg, linC rk x cm i)) H := hP
          have hD : va_D A (wM c0 a (th, n, wk, sd, bt, lt, lo, ct, rk, ad, sp, gd, rf, (31 * (linS rk ad x sm i)) + ((ad i).toInt64), js, sn, wl, vl, bg, linC rk x cm i)) := hD
          refine lv_aload_n hx hb dM0_acted_40 rfl (lv_at hl 0 rfl) ?_
          refine va_get (D := (dC, dI)) (ci := 4) (v := .ref (a 10)) (C := RM0) (T := TM0) (N := 20) hx hb hts inM0 hown hK hP 0 rfl rfl 19 (by decide) (hE.t m_446 rfl) (fun _ h9 => h9) rfl dM0_acted_41 ?_
          refine lv_iload_n hx hb dM0_acted_44 rfl (lv_at hl 2 rfl) ?_
          refine lv_iload_n hx hb dM0_acted_45 rfl (lv_at hl 1 rfl) ?_
          refine va_iast hx hb hK hP hD hS 10 0 rfl rfl (vp_in_nI (by omega) (by omega)) dM0_acted_46 (fun H locs hP hD hS => ?_)
          rw [nI_clamp (n := i) (by omega)] at hP hD
          have hP : va_P (dC, dI) vwCl (wM c0 a (th, n, wk, sd, bt, lt, lo, ct, rk, ad, sp, gd, rf, (31 * (linS rk ad x sm i)) + ((ad i).toInt64), js, sn, wl, vl, bg, upd (linC rk x cm i) i x)) H := hP
          have hD : va_D A (wM c0 a (th, n, wk, sd, bt, lt, lo, ct, rk, ad, sp, gd, rf, (31 * (linS rk ad x sm i)) + ((ad i).toInt64), js, sn, wl, vl, bg, upd (linC rk x cm i) i x)) := hD
          refine lv_iinc (v := nI (i + 1)) (lv' := [(2, .int (nI (i + 1))), (0, .ref (a 0)), (1, .int x)]) hx hb dM0_acted_47 hl (k := 2) rfl (by rw [← nI_1]; rfl) (by decide) rfl (fun ls hl => ?_)
          refine lv_goto (tgt := 2) hx hb dM0_acted_50 (by decide) ?_
          have e1 : linS rk ad x sm (i + 1) = (31 * (linS rk ad x sm i)) + ((ad i).toInt64) := by simp only [linS, eq_true c_17, ↓reduceIte]
          have e2 : linC rk x cm (i + 1) = upd (linC rk x cm i) i x := by simp only [linC, eq_true c_17, ↓reduceIte]
          rw [← e1, ← e2] at hP hD
          exact ih2 (i + 1) (by omega) (by omega) _ _ _ hP hD hS (lv_sub hl [1, 2, 0] rfl)
  have hl0 : lv_has ls 3 [(0, .ref (a 0)), (1, .int x), (2, .int (nI 0))] := by
    rw [nI_0]; exact lv_sub hl [1, 2, 0] rfl
  exact hloop2 (ct + 1) 0 (by omega) (by omega) _ _ _ hP hD hS hl0
set_option maxHeartbeats 4000000 in
set_option maxRecDepth 100000 in
/-- settles(k) -/
theorem c_M0_settles (l : Launch) (dC : Nat → ClassId) (dI : Nat → Nat → Nat) (c0 : ClassId) (a : Nat → Nat) (sz : Nat) (th : Int32) (n : Nat) (wk sd bt lt lo : Nat → Int32) (ct : Nat) (rk ad : Nat → Int32) (sp gd rf : Int32) (sm : Int64) (js sn wl : Int32) (vl bg cm : Nat → Int32) (k : Int32) (hk : vp_in k 40) : Met l yM0_settles wsM0_settles ({ frames := 0, cells := 0, slots := 0, locals := 0 }) (va_Pc [.ref (a 0), .int k] (PM dC dI c0 a (th, n, wk, sd, bt, lt, lo, ct, rk, ad, sp, gd, rf, sm, js, sn, wl, vl, bg, cm) sz)) (va_Qi (fun (r : Int32) (u : mS) => u = (th, n, wk, sd, bt, lt, lo, ct, rk, ad, sp, gd, rf, sm, js, sn, wl, vl, bg, cm) ∧ r = stm (bt k.toNatClampNeg) (vl k.toNatClampNeg)) (BM dC dI c0 a (va_A (wM c0 a (th, n, wk, sd, bt, lt, lo, ct, rk, ad, sp, gd, rf, sm, js, sn, wl, vl, bg, cm)) sz)) (va_A (wM c0 a (th, n, wk, sd, bt, lt, lo, ct, rk, ad, sp, gd, rf, sm, js, sn, wl, vl, bg, cm)) sz)) 0 0 (va_A (wM c0 a (th, n, wk, sd, bt, lt, lo, ct, rk, ad, sp, gd, rf, sm, js, sn, wl, vl, bg, cm)) sz) := by
  refine Met.ofW (cc := cM0_settles) (maxL := 2) (ret := (some .boolean)) (by decide) rfl ?_
  intro p e s m args below meth c s₁ B hml hv
  obtain ⟨rfl, hsz, hP, hK, hD0, hE⟩ := hv
  have hx := B.exec
  have hb := B.bytes
  have hr := B.returns
  have hown : s.vm.findClass RM0 = some m.cls := findClass_of_methodNamed B.named
  have hlocks := B.notSynchronized
  subst hsz
  have hD := hD0.self (sz := s.heap.size)
  generalize hAe : va_A (wM c0 a (th, n, wk, sd, bt, lt, lo, ct, rk, ad, sp, gd, rf, sm, js, sn, wl, vl, bg, cm)) s.heap.size = A at hD hE ⊢
  have hts := hE.ts (args := ([.ref (a 0), .int k] : List Value).toArray)
  have hA : ∀ q : Nat, s.heap.size ≤ q → A q := fun q h => by rw [← hAe]; exact Or.inr h
  have hS : va_S A s.heap s.heap [] := va_S.rf
  have hP : va_P (dC, dI) vwCl (wM c0 a (th, n, wk, sd, bt, lt, lo, ct, rk, ad, sp, gd, rf, sm, js, sn, wl, vl, bg, cm)) s.heap := hP
  have hl := lv_entry ([.ref (a 0), .int k]) (n := 2) (Nat.le_of_ble_eq_true rfl)
  rw [lg_entry_eq]
  generalize (lg_sl ([.ref (a 0), .int k]) ++ List.replicate (2 - (lg_sl ([.ref (a 0), .int k])).length) Slot.unset).toArray = ls at hl ⊢
  have hl : lv_has ls 2 [(0, .ref (a 0)), (1, .int k)] := hl
  refine lv_aload_n hx hb dM0_settles_0 rfl (lv_at hl 0 rfl) ?_
  refine va_get (D := (dC, dI)) (ci := 4) (v := .ref (a 3)) (C := RM0) (T := TM0) (N := 20) hx hb hts inM0 hown hK hP 0 rfl rfl 4 (by decide) (hE.t m_431 rfl) (fun _ h9 => h9) rfl dM0_settles_1 ?_
  refine lv_iload_n hx hb dM0_settles_4 rfl (lv_at hl 1 rfl) ?_
  refine va_iald hx hb hK hP 3 0 rfl rfl hk dM0_settles_5 ?_
  refine lv_if_le (tgt := 31) hx hb dM0_settles_6 (by decide) (fun c_6 => ?_) (fun c_6 => ?_)
  · skip
    refine lv_iconst (v := 0) hx hb dM0_settles_31 (by decide) ?_
    exact W.zret (v := 0) hx hb hr rfl (fun t ht hW => ⟨⟨0, (th, n, wk, sd, bt, lt, lo, ct, rk, ad, sp, gd, rf, sm, js, sn, wl, vl, bg, cm), rfl, ⟨rfl, (by simp only [stm, c_6, ↓reduceIte])⟩, by rw [ht]; exact hP, va_K.moved hW.alike hK, hD⟩, hS.F ht⟩) hS.2.2 dM0_settles_32
  · skip
    refine lv_aload_n hx hb dM0_settles_9 rfl (lv_at hl 0 rfl) ?_
    refine va_get (D := (dC, dI)) (ci := 4) (v := .ref (a 8)) (C := RM0) (T := TM0) (N := 20) hx hb hts inM0 hown hK hP 0 rfl rfl 17 (by decide) (hE.t m_444 rfl) (fun _ h9 => h9) rfl dM0_settles_10 ?_
    refine lv_iload_n hx hb dM0_settles_13 rfl (lv_at hl 1 rfl) ?_
    refine va_iald hx hb hK hP 8 0 rfl rfl hk dM0_settles_14 ?_
    refine lv_iconst (v := 1) hx hb dM0_settles_15 (by decide) ?_
    refine lv_aload_n hx hb dM0_settles_16 rfl (lv_at hl 0 rfl) ?_
    refine va_get (D := (dC, dI)) (ci := 4) (v := .ref (a 3)) (C := RM0) (T := TM0) (N := 20) hx hb hts inM0 hown hK hP 0 rfl rfl 4 (by decide) (hE.t m_431 rfl) (fun _ h9 => h9) rfl dM0_settles_17 ?_
    refine lv_iload_n hx hb dM0_settles_20 rfl (lv_at hl 1 rfl) ?_
    refine va_iald hx hb hK hP 3 0 rfl rfl hk dM0_settles_21 ?_
    refine lv_ishl hx hb dM0_settles_22 ?_
    refine lv_irem hx hb dM0_settles_23 (sh_ne _) ?_
    refine lv_if_ne (tgt := 31) hx hb dM0_settles_24 (by decide) (fun c_24 => ?_) (fun c_24 => ?_)
    · skip
      refine lv_iconst (v := 0) hx hb dM0_settles_31 (by decide) ?_
      exact W.zret (v := 0) hx hb hr rfl (fun t ht hW => ⟨⟨0, (th, n, wk, sd, bt, lt, lo, ct, rk, ad, sp, gd, rf, sm, js, sn, wl, vl, bg, cm), rfl, ⟨rfl, (by simp only [stm, c_6, c_24, ↓reduceIte])⟩, by rw [ht]; exact hP, va_K.moved hW.alike hK, hD⟩, hS.F ht⟩) hS.2.2 dM0_settles_32
    · skip
      refine lv_iconst (v := 1) hx hb dM0_settles_27 (by decide) ?_
      refine lv_goto (tgt := 32) hx hb dM0_settles_28 (by decide) ?_
      exact W.zret (v := 1) hx hb hr rfl (fun t ht hW => ⟨⟨1, (th, n, wk, sd, bt, lt, lo, ct, rk, ad, sp, gd, rf, sm, js, sn, wl, vl, bg, cm), rfl, ⟨rfl, (by simp only [stm, c_6, eq_true c_24, ↓reduceIte])⟩, by rw [ht]; exact hP, va_K.moved hW.alike hK, hD⟩, hS.F ht⟩) hS.2.2 dM0_settles_32
set_option maxHeartbeats 4000000 in
set_option maxRecDepth 100000 in
/-- join() -/
theorem c_M0_join (l : Launch) (dC : Nat → ClassId) (dI : Nat → Nat → Nat) (c0 : ClassId) (a : Nat → Nat) (sz : Nat) (th : Int32) (n : Nat) (wk sd bt lt lo : Nat → Int32) (ct : Nat) (rk ad : Nat → Int32) (sp gd rf : Int32) (sm : Int64) (js sn wl : Int32) (vl bg cm : Nat → Int32) (hn : n ≤ 40) (hct : ct ≤ 24) : Met l yM0_join wsM0_join ({ frames := 1, cells := 0, slots := 0, locals := 24 }) (va_Pc [.ref (a 0)] (PM dC dI c0 a (th, n, wk, sd, bt, lt, lo, ct, rk, ad, sp, gd, rf, sm, js, sn, wl, vl, bg, cm) sz)) (va_Qi (fun (r : Int32) (u : mS) => ∃ (s9 : Int64) (c9 : Nat → Int32) (j9 : Nat), jnM bt rk ad vl (fil (fun _ => (-1)) cm 24) ct n sp n 0 = (r, s9, c9, j9) ∧ u = (th, n, wk, sd, bt, lt, lo, ct, rk, ad, sp, gd, rf, s9, nI j9, sn, wl, vl, bg, c9)) (BM dC dI c0 a (va_A (wM c0 a (th, n, wk, sd, bt, lt, lo, ct, rk, ad, sp, gd, rf, sm, js, sn, wl, vl, bg, cm)) sz)) (va_A (wM c0 a (th, n, wk, sd, bt, lt, lo, ct, rk, ad, sp, gd, rf, sm, js, sn, wl, vl, bg, cm)) sz)) 0 0 (va_A (wM c0 a (th, n, wk, sd, bt, lt, lo, ct, rk, ad, sp, gd, rf, sm, js, sn, wl, vl, bg, cm)) sz) := by
  refine Met.ofW (cc := cM0_join) (maxL := 2) (ret := (some .int)) (by decide) rfl ?_
  intro p e s m args below meth c s₁ B hml hv
  obtain ⟨rfl, hsz, hP, hK, hD0, hE⟩ := hv
  have hx := B.exec
  have hb := B.bytes
  have hr := B.returns
  have hown : s.vm.findClass RM0 = some m.cls := findClass_of_methodNamed B.named
  have hlocks := B.notSynchronized
  subst hsz
  have hD := hD0.self (sz := s.heap.size)
  generalize hAe : va_A (wM c0 a (th, n, wk, sd, bt, lt, lo, ct, rk, ad, sp, gd, rf, sm, js, sn, wl, vl, bg, cm)) s.heap.size = A at hD hE ⊢
  have hts := hE.ts (args := ([.ref (a 0)] : List Value).toArray)
  have hA : ∀ q : Nat, s.heap.size ≤ q → A q := fun q h => by rw [← hAe]; exact Or.inr h
  have hS : va_S A s.heap s.heap [] := va_S.rf
  have hP : va_P (dC, dI) vwCl (wM c0 a (th, n, wk, sd, bt, lt, lo, ct, rk, ad, sp, gd, rf, sm, js, sn, wl, vl, bg, cm)) s.heap := hP
  refine gz (P := fun Z => W p l e _ s m _ below meth c _ _ _ _ Z _) (fun Z hZ => ?_)
  show W p l e _ s m _ below meth c _ _ _ _ Z _
  have hl := lv_entry ([.ref (a 0)]) (n := 2) (Nat.le_of_ble_eq_true rfl)
  rw [lg_entry_eq]
  generalize (lg_sl ([.ref (a 0)]) ++ List.replicate (2 - (lg_sl ([.ref (a 0)])).length) Slot.unset).toArray = ls at hl ⊢
  have hl : lv_has ls 2 [(0, .ref (a 0))] := hl
  refine lv_aload_n hx hb dM0_join_0 rfl (lv_at hl 0 rfl) ?_
  refine lv_lconst (v := 0) hx hb dM0_join_1 (by decide) ?_
  refine va_put (D := (dC, dI)) (ci := 4) (v := .long 0) (ty := .long) (C := RM0) (T := TM0) (N := 20) hx hb hts inM0 tyM0 tyM0_ok nmM0 hown hK hP hD hS 0 rfl rfl 13 (by decide) (hE.t m_440 rfl) (fun _ h9 => h9) rfl (by decide +kernel) rfl rfl (Nat.le_of_ble_eq_true rfl) dM0_join_2 (fun H locs hP hD hS => ?_)
  have hP : va_P (dC, dI) vwCl (wM c0 a (th, n, wk, sd, bt, lt, lo, ct, rk, ad, sp, gd, rf, 0, js, sn, wl, vl, bg, cm)) H := hP
  have hD : va_D A (wM c0 a (th, n, wk, sd, bt, lt, lo, ct, rk, ad, sp, gd, rf, 0, js, sn, wl, vl, bg, cm)) := hD
  refine lv_aload_n hx hb dM0_join_5 rfl (lv_at hl 0 rfl) ?_
  refine lv_iconst (v := 0) hx hb dM0_join_6 (by decide) ?_
  refine va_put (D := (dC, dI)) (ci := 4) (v := .int 0) (ty := .int) (C := RM0) (T := TM0) (N := 20) hx hb hts inM0 tyM0 tyM0_ok nmM0 hown hK hP hD hS 0 rfl rfl 14 (by decide) (hE.t m_441 rfl) (fun _ h9 => h9) rfl (by decide +kernel) rfl rfl (Nat.le_of_ble_eq_true rfl) dM0_join_7 (fun H locs hP hD hS => ?_)
  have hP : va_P (dC, dI) vwCl (wM c0 a (th, n, wk, sd, bt, lt, lo, ct, rk, ad, sp, gd, rf, 0, 0, sn, wl, vl, bg, cm)) H := hP
  have hD : va_D A (wM c0 a (th, n, wk, sd, bt, lt, lo, ct, rk, ad, sp, gd, rf, 0, 0, sn, wl, vl, bg, cm)) := hD
  refine lv_iconst (v := 0) hx hb dM0_join_10 (by decide) ?_
  refine lv_istore_n (lv' := [(1, .int 0), (0, .ref (a 0))]) hx hb dM0_join_11 rfl hl (by decide) rfl (fun ls hl => ?_)
  have hloop12 : ∀ (fu : Nat) (i : Nat), 24 + 1 ≤ i + fu → i ≤ 24 → ∀ (H : Heap) (locs : List Loc) (ls : Array Slot), va_P (dC, dI) vwCl (wM c0 a (th, n, wk, sd, bt, lt, lo, ct, rk, ad, sp, gd, rf, 0, 0, sn, wl, vl, bg, fil (fun _ => (-1)) cm i)) H → va_D A (wM c0 a (th, n, wk, sd, bt, lt, lo, ct, rk, ad, sp, gd, rf, 0, 0, sn, wl, vl, bg, fil (fun _ => (-1)) cm i)) → va_S A s.heap H locs → lv_has ls 2 [(0, .ref (a 0)), (1, .int (nI i))] → W p l e (headSpec wsM0_join ({ frames := 1, cells := 0, slots := 0, locals := 24 })).room s m ([.ref (a 0)] : List Value).toArray below meth c H locs 0 0 Z (F0 m 12 ls []) := by
    intro fu
    induction fu with
    | zero =>
      intro i hfu hi0
      exact absurd hfu (by omega)
    | succ fu ih12 =>
      intro i hfu hi0 H locs ls hP hD hS hl
      refine lv_iload_n hx hb dM0_join_12 rfl (lv_at hl 1 rfl) ?_
      refine lv_bipush (v := 24) hx hb dM0_join_13 (by decide) ?_
      refine lv_icmp_ge (tgt := 31) hx hb dM0_join_15 (by decide) (fun c_15 => ?_) (fun c_15 => ?_)
      · skip
        have hie0 : i = 24 := by
          have h9 := (nI_leI (a := 24) (b := i) (by omega) (by omega)).mp c_15
          omega
        rw [hie0] at hP hD hl
        refine lv_iconst (v := 0) hx hb dM0_join_31 (by decide) ?_
        refine lv_istore_n (lv' := [(1, .int 0), (0, .ref (a 0))]) hx hb dM0_join_32 rfl hl (by decide) rfl (fun ls hl => ?_)
        have hloop33 : ∀ (fu : Nat) (k : Nat), n + 1 ≤ k + fu → k ≤ n → jnM bt rk ad vl (fil (fun _ => (-1)) cm 24) ct n sp (n - k) k = jnM bt rk ad vl (fil (fun _ => (-1)) cm 24) ct n sp n 0 → ∀ (H : Heap) (locs : List Loc) (ls : Array Slot), va_P (dC, dI) vwCl (wM c0 a (th, n, wk, sd, bt, lt, lo, ct, rk, ad, sp, gd, rf, jnS rk ad vl ct k, nI k, sn, wl, vl, bg, jnC rk ct (fil (fun _ => (-1)) cm 24) k)) H → va_D A (wM c0 a (th, n, wk, sd, bt, lt, lo, ct, rk, ad, sp, gd, rf, jnS rk ad vl ct k, nI k, sn, wl, vl, bg, jnC rk ct (fil (fun _ => (-1)) cm 24) k)) → va_S A s.heap H locs → lv_has ls 2 [(0, .ref (a 0)), (1, .int (nI k))] → W p l e (headSpec wsM0_join ({ frames := 1, cells := 0, slots := 0, locals := 24 })).room s m ([.ref (a 0)] : List Value).toArray below meth c H locs 0 0 Z (F0 m 33 ls []) := by
          intro fu
          induction fu with
          | zero =>
            intro k hfu hi hJ
            exact absurd hfu (by omega)
          | succ fu ih33 =>
            intro k hfu hi hJ H locs ls hP hD hS hl
            refine lv_iload_n hx hb dM0_join_33 rfl (lv_at hl 1 rfl) ?_
            refine lv_aload_n hx hb dM0_join_34 rfl (lv_at hl 0 rfl) ?_
            refine va_get (D := (dC, dI)) (ci := 4) (v := .int (nI n)) (C := RM0) (T := TM0) (N := 20) hx hb hts inM0 hown hK hP 0 rfl rfl 1 (by decide) (hE.t m_428 rfl) (fun _ h9 => h9) rfl dM0_join_35 ?_
            refine lv_icmp_ge (tgt := 102) hx hb dM0_join_38 (by decide) (fun c_38 => ?_) (fun c_38 => ?_)
            · skip
              have hie : k = n := by
                have h9 := (nI_leI (a := n) (b := k) (by omega) (by omega)).mp c_38
                omega
              rw [hie] at hP hD hl
              have hie2 : n - k = 0 := by omega
              rw [hie2, hie] at hJ
              refine lv_aload_n hx hb dM0_join_102 rfl (lv_at hl 0 rfl) ?_
              refine lv_aload_n hx hb dM0_join_103 rfl (lv_at hl 0 rfl) ?_
              refine va_get (D := (dC, dI)) (ci := 4) (v := .int (nI n)) (C := RM0) (T := TM0) (N := 20) hx hb hts inM0 hown hK hP 0 rfl rfl 1 (by decide) (hE.t m_428 rfl) (fun _ h9 => h9) rfl dM0_join_104 ?_
              have hFc := fre hD hS hA
              refine va_callv (va_runV (As := [.int (nI n)]) (rest := []) ⟨hx, hb, hml, hown, hts⟩ (c_M0_acted l dC dI c0 a _ th n wk sd bt lt lo ct rk ad sp gd rf (jnS rk ad vl ct n) (nI n) sn wl vl bg (jnC rk ct (fil (fun _ => (-1)) cm 24) n) (nI n) hct) (cwV 1 hts gM0_join_M0_acted rfl rfl rfl (by decide +kernel) ⟨(Nat.le_of_ble_eq_true rfl), (Nat.le_of_ble_eq_true rfl)⟩) ⟨PM_blind, va_recv hK hP (ci := 4) (q0 := 0) rfl rfl, PM_give hP hK hD hE hS hFc⟩ rfl rfl hl.1 rfl (lv_room (Nat.le_of_ble_eq_true rfl)) dM0_join_107 ⟨by decide, by decide⟩) hS (fun q _ h => hFc q h) hFc (fun u t H1 locs ht hvm hw hB hz1 hk1 hS => ?_)
              obtain rfl := hw
              obtain ⟨hP, hD⟩ := PM_take ht hFc hB
              generalize H1 = H at hP hS ⊢
              have hP : va_P (dC, dI) vwCl (wM c0 a (th, n, wk, sd, bt, lt, lo, ct, rk, ad, sp, gd, rf, linS rk ad (nI n) (jnS rk ad vl ct n) ct, nI n, sn, wl, vl, bg, linC rk (nI n) (jnC rk ct (fil (fun _ => (-1)) cm 24) n) ct)) H := hP
              have hD : va_D A (wM c0 a (th, n, wk, sd, bt, lt, lo, ct, rk, ad, sp, gd, rf, linS rk ad (nI n) (jnS rk ad vl ct n) ct, nI n, sn, wl, vl, bg, linC rk (nI n) (jnC rk ct (fil (fun _ => (-1)) cm 24) n) ct)) := hD
              refine lv_iconst (v := (-1)) hx hb dM0_join_110 (by decide) ?_
              rw [hZ]
              exact W.iret (v := (-1)) hx hb hr (fun t ht hW => ⟨⟨(-1), (th, n, wk, sd, bt, lt, lo, ct, rk, ad, sp, gd, rf, linS rk ad (nI n) (jnS rk ad vl ct n) ct, nI n, sn, wl, vl, bg, linC rk (nI n) (jnC rk ct (fil (fun _ => (-1)) cm 24) n) ct), rfl, ⟨_, _, _, hJ.symm.trans rfl, rfl⟩, by rw [ht]; exact hP, va_K.moved hW.alike hK, hD⟩, hS.F ht⟩) hS.2.2 dM0_join_111
            · skip
              have hlt : k < n := by
                rcases Nat.lt_or_ge k n with h9 | h9
                · exact h9
                · exact absurd (nI_le h9 (by omega)) c_38
              have hie2 : n - k = n - (k + 1) + 1 := by omega
              refine lv_iload_n hx hb dM0_join_41 rfl (lv_at hl 1 rfl) ?_
              refine lv_aload_n hx hb dM0_join_42 rfl (lv_at hl 0 rfl) ?_
              refine va_get (D := (dC, dI)) (ci := 4) (v := .int sp) (C := RM0) (T := TM0) (N := 20) hx hb hts inM0 hown hK hP 0 rfl rfl 10 (by decide) (hE.t m_437 rfl) (fun _ h9 => h9) rfl dM0_join_43 ?_
              refine lv_icmp_ne (tgt := 51) hx hb dM0_join_46 (by decide) (fun c_46 => ?_) (fun c_46 => ?_)
              · skip
                refine lv_aload_n hx hb dM0_join_51 rfl (lv_at hl 0 rfl) ?_
                refine lv_iload_n hx hb dM0_join_52 rfl (lv_at hl 1 rfl) ?_
                have hFc := fre hD hS hA
                refine va_callv (va_runV (As := [.int (nI k)]) (rest := []) ⟨hx, hb, hml, hown, hts⟩ (c_M0_acted l dC dI c0 a _ th n wk sd bt lt lo ct rk ad sp gd rf (jnS rk ad vl ct k) (nI k) sn wl vl bg (jnC rk ct (fil (fun _ => (-1)) cm 24) k) (nI k) hct) (cwV 1 hts gM0_join_M0_acted rfl rfl rfl (by decide +kernel) ⟨(Nat.le_of_ble_eq_true rfl), (Nat.le_of_ble_eq_true rfl)⟩) ⟨PM_blind, va_recv hK hP (ci := 4) (q0 := 0) rfl rfl, PM_give hP hK hD hE hS hFc⟩ rfl rfl hl.1 rfl (lv_room (Nat.le_of_ble_eq_true rfl)) dM0_join_53 ⟨by decide, by decide⟩) hS (fun q _ h => hFc q h) hFc (fun u t H1 locs ht hvm hw hB hz1 hk1 hS => ?_)
                obtain rfl := hw
                obtain ⟨hP, hD⟩ := PM_take ht hFc hB
                generalize H1 = H at hP hS ⊢
                have hP : va_P (dC, dI) vwCl (wM c0 a (th, n, wk, sd, bt, lt, lo, ct, rk, ad, sp, gd, rf, linS rk ad (nI k) (jnS rk ad vl ct k) ct, nI k, sn, wl, vl, bg, linC rk (nI k) (jnC rk ct (fil (fun _ => (-1)) cm 24) k) ct)) H := hP
                have hD : va_D A (wM c0 a (th, n, wk, sd, bt, lt, lo, ct, rk, ad, sp, gd, rf, linS rk ad (nI k) (jnS rk ad vl ct k) ct, nI k, sn, wl, vl, bg, linC rk (nI k) (jnC rk ct (fil (fun _ => (-1)) cm 24) k) ct)) := hD
                refine lv_aload_n hx hb dM0_join_56 rfl (lv_at hl 0 rfl) ?_
                refine lv_ldc2 hx hb (own := RM0) (v := 1000003) hown (hE.t m_539 rfl) dM0_join_57 ?_
                refine lv_aload_n hx hb dM0_join_60 rfl (lv_at hl 0 rfl) ?_
                refine va_get (D := (dC, dI)) (ci := 4) (v := .long (linS rk ad (nI k) (jnS rk ad vl ct k) ct)) (C := RM0) (T := TM0) (N := 20) hx hb hts inM0 hown hK hP 0 rfl rfl 13 (by decide) (hE.t m_440 rfl) (fun _ h9 => h9) rfl dM0_join_61 ?_
                refine lv_lmul hx hb dM0_join_64 ?_
                refine lv_aload_n hx hb dM0_join_65 rfl (lv_at hl 0 rfl) ?_
                refine va_get (D := (dC, dI)) (ci := 4) (v := .ref (a 8)) (C := RM0) (T := TM0) (N := 20) hx hb hts inM0 hown hK hP 0 rfl rfl 17 (by decide) (hE.t m_444 rfl) (fun _ h9 => h9) rfl dM0_join_66 ?_
                refine lv_iload_n hx hb dM0_join_69 rfl (lv_at hl 1 rfl) ?_
                refine va_iald hx hb hK hP 8 0 rfl rfl (vp_in_nI (by omega) (by omega)) dM0_join_70 ?_
                rw [nI_clamp (n := k) (by omega)]
                refine lv_i2l hx hb dM0_join_71 (v := (vl k).toInt64) rfl ?_
                refine lv_ladd hx hb dM0_join_72 ?_
                refine va_put (D := (dC, dI)) (ci := 4) (v := .long ((1000003 * (linS rk ad (nI k) (jnS rk ad vl ct k) ct)) + ((vl k).toInt64))) (ty := .long) (C := RM0) (T := TM0) (N := 20) hx hb hts inM0 tyM0 tyM0_ok nmM0 hown hK hP hD hS 0 rfl rfl 13 (by decide) (hE.t m_440 rfl) (fun _ h9 => h9) rfl (by decide +kernel) rfl rfl (Nat.le_of_ble_eq_true rfl) dM0_join_73 (fun H locs hP hD hS => ?_)
                have hP : va_P (dC, dI) vwCl (wM c0 a (th, n, wk, sd, bt, lt, lo, ct, rk, ad, sp, gd, rf, (1000003 * (linS rk ad (nI k) (jnS rk ad vl ct k) ct)) + ((vl k).toInt64), nI k, sn, wl, vl, bg, linC rk (nI k) (jnC rk ct (fil (fun _ => (-1)) cm 24) k) ct)) H := hP
                have hD : va_D A (wM c0 a (th, n, wk, sd, bt, lt, lo, ct, rk, ad, sp, gd, rf, (1000003 * (linS rk ad (nI k) (jnS rk ad vl ct k) ct)) + ((vl k).toInt64), nI k, sn, wl, vl, bg, linC rk (nI k) (jnC rk ct (fil (fun _ => (-1)) cm 24) k) ct)) := hD
                refine lv_aload_n hx hb dM0_join_76 rfl (lv_at hl 0 rfl) ?_
                refine lv_dup hx hb dM0_join_77 rfl ?_
                refine va_get (D := (dC, dI)) (ci := 4) (v := .int (nI k)) (C := RM0) (T := TM0) (N := 20) hx hb hts inM0 hown hK hP 0 rfl rfl 14 (by decide) (hE.t m_441 rfl) (fun _ h9 => h9) rfl dM0_join_78 ?_
                refine lv_iconst (v := 1) hx hb dM0_join_81 (by decide) ?_
                refine lv_iadd hx hb dM0_join_82 ?_
                rw [nI_1]
                refine va_put (D := (dC, dI)) (ci := 4) (v := .int (nI (k + 1))) (ty := .int) (C := RM0) (T := TM0) (N := 20) hx hb hts inM0 tyM0 tyM0_ok nmM0 hown hK hP hD hS 0 rfl rfl 14 (by decide) (hE.t m_441 rfl) (fun _ h9 => h9) rfl (by decide +kernel) rfl rfl (Nat.le_of_ble_eq_true rfl) dM0_join_83 (fun H locs hP hD hS => ?_)
                have hP : va_P (dC, dI) vwCl (wM c0 a (th, n, wk, sd, bt, lt, lo, ct, rk, ad, sp, gd, rf, (1000003 * (linS rk ad (nI k) (jnS rk ad vl ct k) ct)) + ((vl k).toInt64), nI (k + 1), sn, wl, vl, bg, linC rk (nI k) (jnC rk ct (fil (fun _ => (-1)) cm 24) k) ct)) H := hP
                have hD : va_D A (wM c0 a (th, n, wk, sd, bt, lt, lo, ct, rk, ad, sp, gd, rf, (1000003 * (linS rk ad (nI k) (jnS rk ad vl ct k) ct)) + ((vl k).toInt64), nI (k + 1), sn, wl, vl, bg, linC rk (nI k) (jnC rk ct (fil (fun _ => (-1)) cm 24) k) ct)) := hD
                refine lv_aload_n hx hb dM0_join_86 rfl (lv_at hl 0 rfl) ?_
                refine lv_iload_n hx hb dM0_join_87 rfl (lv_at hl 1 rfl) ?_
                have hFc := fre hD hS hA
                refine va_calli (va_runV (As := [.int (nI k)]) (rest := []) ⟨hx, hb, hml, hown, hts⟩ (c_M0_settles l dC dI c0 a _ th n wk sd bt lt lo ct rk ad sp gd rf ((1000003 * (linS rk ad (nI k) (jnS rk ad vl ct k) ct)) + ((vl k).toInt64)) (nI (k + 1)) sn wl vl bg (linC rk (nI k) (jnC rk ct (fil (fun _ => (-1)) cm 24) k) ct) (nI k) (vp_in_nI (by omega) (by omega))) (cwV 1 hts gM0_join_M0_settles rfl rfl rfl (by decide +kernel) ⟨(Nat.le_of_ble_eq_true rfl), (Nat.le_of_ble_eq_true rfl)⟩) ⟨PM_blind, va_recv hK hP (ci := 4) (q0 := 0) rfl rfl, PM_give hP hK hD hE hS hFc⟩ rfl rfl hl.1 rfl (lv_room (Nat.le_of_ble_eq_true rfl)) dM0_join_88 ⟨by decide, by decide⟩) hS (fun q _ h => hFc q h) hFc (fun r_88 u t H1 locs ht hvm hw hB hz1 hk1 hS => ?_)
                obtain ⟨rfl, rfl⟩ := hw
                obtain ⟨hP, hD⟩ := PM_take ht hFc hB
                generalize H1 = H at hP hS ⊢
                have hP : va_P (dC, dI) vwCl (wM c0 a (th, n, wk, sd, bt, lt, lo, ct, rk, ad, sp, gd, rf, (1000003 * (linS rk ad (nI k) (jnS rk ad vl ct k) ct)) + ((vl k).toInt64), nI (k + 1), sn, wl, vl, bg, linC rk (nI k) (jnC rk ct (fil (fun _ => (-1)) cm 24) k) ct)) H := hP
                have hD : va_D A (wM c0 a (th, n, wk, sd, bt, lt, lo, ct, rk, ad, sp, gd, rf, (1000003 * (linS rk ad (nI k) (jnS rk ad vl ct k) ct)) + ((vl k).toInt64), nI (k + 1), sn, wl, vl, bg, linC rk (nI k) (jnC rk ct (fil (fun _ => (-1)) cm 24) k) ct)) := hD
                rw [nI_clamp (n := k) (by omega)]
                refine lv_if_eq (tgt := 96) hx hb dM0_join_91 (by decide) (fun c_91 => ?_) (fun c_91 => ?_)
                · skip
                  refine lv_iinc (v := nI (k + 1)) (lv' := [(1, .int (nI (k + 1))), (0, .ref (a 0))]) hx hb dM0_join_96 hl (k := 1) rfl (by rw [← nI_1]; rfl) (by decide) rfl (fun ls hl => ?_)
                  refine lv_goto (tgt := 33) hx hb dM0_join_99 (by decide) ?_
                  have hJ2 : jnM bt rk ad vl (fil (fun _ => (-1)) cm 24) ct n sp (n - (k + 1)) (k + 1) = jnM bt rk ad vl (fil (fun _ => (-1)) cm 24) ct n sp n 0 := by
                    rw [← hJ, hie2]; simp only [jnM, c_46, c_91, ↓reduceIte]
                  exact ih33 (k + 1) (by omega) (by omega) hJ2 _ _ _ hP hD hS (lv_sub hl [1, 0] rfl)
                · skip
                  refine lv_iload_n hx hb dM0_join_94 rfl (lv_at hl 1 rfl) ?_
                  rw [hZ]
                  exact W.iret (v := nI k) hx hb hr (fun t ht hW => ⟨⟨nI k, (th, n, wk, sd, bt, lt, lo, ct, rk, ad, sp, gd, rf, (1000003 * (linS rk ad (nI k) (jnS rk ad vl ct k) ct)) + ((vl k).toInt64), nI (k + 1), sn, wl, vl, bg, linC rk (nI k) (jnC rk ct (fil (fun _ => (-1)) cm 24) k) ct), rfl, ⟨_, _, _, hJ.symm.trans (by rw [hie2]; simp only [jnM, c_46, c_91, ↓reduceIte]; try rfl), rfl⟩, by rw [ht]; exact hP, va_K.moved hW.alike hK, hD⟩, hS.F ht⟩) hS.2.2 dM0_join_95
              · skip
                refine lv_iconst (v := (-1)) hx hb dM0_join_49 (by decide) ?_
                rw [hZ]
                exact W.iret (v := (-1)) hx hb hr (fun t ht hW => ⟨⟨(-1), (th, n, wk, sd, bt, lt, lo, ct, rk, ad, sp, gd, rf, jnS rk ad vl ct k, nI k, sn, wl, vl, bg, jnC rk ct (fil (fun _ => (-1)) cm 24) k), rfl, ⟨_, _, _, hJ.symm.trans (by rw [hie2]; simp only [jnM, eq_true c_46, ↓reduceIte]; try rfl), rfl⟩, by rw [ht]; exact hP, va_K.moved hW.alike hK, hD⟩, hS.F ht⟩) hS.2.2 dM0_join_50
        have hP : va_P (dC, dI) vwCl (wM c0 a (th, n, wk, sd, bt, lt, lo, ct, rk, ad, sp, gd, rf, jnS rk ad vl ct 0, nI 0, sn, wl, vl, bg, jnC rk ct (fil (fun _ => (-1)) cm 24) 0)) H := by rw [nI_0]; exact hP
        have hD : va_D A (wM c0 a (th, n, wk, sd, bt, lt, lo, ct, rk, ad, sp, gd, rf, jnS rk ad vl ct 0, nI 0, sn, wl, vl, bg, jnC rk ct (fil (fun _ => (-1)) cm 24) 0)) := by rw [nI_0]; exact hD
        have hl0 : lv_has ls 2 [(0, .ref (a 0)), (1, .int (nI 0))] := by
          rw [nI_0]; exact lv_sub hl [1, 0] rfl
        exact hloop33 (n + 1) 0 (by omega) (by omega) rfl _ _ _ hP hD hS hl0
      · skip
        have hlt0 : i < 24 := by
          rcases Nat.lt_or_ge i 24 with h9 | h9
          · exact h9
          · exact absurd (show (24 : Int32) ≤ nI i from nI_le (a := 24) h9 (by omega)) c_15
        refine lv_aload_n hx hb dM0_join_18 rfl (lv_at hl 0 rfl) ?_
        refine va_get (D := (dC, dI)) (ci := 4) (v := .ref (a 10)) (C := RM0) (T := TM0) (N := 20) hx hb hts inM0 hown hK hP 0 rfl rfl 19 (by decide) (hE.t m_446 rfl) (fun _ h9 => h9) rfl dM0_join_19 ?_
        refine lv_iload_n hx hb dM0_join_22 rfl (lv_at hl 1 rfl) ?_
        refine lv_iconst (v := (-1)) hx hb dM0_join_23 (by decide) ?_
        refine va_iast hx hb hK hP hD hS 10 0 rfl rfl (vp_in_nI (by omega) (by omega)) dM0_join_24 (fun H locs hP hD hS => ?_)
        rw [nI_clamp (n := i) (by omega)] at hP hD
        have hP : va_P (dC, dI) vwCl (wM c0 a (th, n, wk, sd, bt, lt, lo, ct, rk, ad, sp, gd, rf, 0, 0, sn, wl, vl, bg, upd (fil (fun _ => (-1)) cm i) i (-1))) H := hP
        have hD : va_D A (wM c0 a (th, n, wk, sd, bt, lt, lo, ct, rk, ad, sp, gd, rf, 0, 0, sn, wl, vl, bg, upd (fil (fun _ => (-1)) cm i) i (-1))) := hD
        refine lv_iinc (v := nI (i + 1)) (lv' := [(1, .int (nI (i + 1))), (0, .ref (a 0))]) hx hb dM0_join_25 hl (k := 1) rfl (by rw [← nI_1]; rfl) (by decide) rfl (fun ls hl => ?_)
        refine lv_goto (tgt := 12) hx hb dM0_join_28 (by decide) ?_
        exact ih12 (i + 1) (by omega) (by omega) _ _ _ hP hD hS (lv_sub hl [1, 0] rfl)
  have hl0 : lv_has ls 2 [(0, .ref (a 0)), (1, .int (nI 0))] := by
    rw [nI_0]; exact lv_sub hl [1, 0] rfl
  exact hloop12 (24 + 1) 0 (by omega) (by omega) _ _ _ hP hD hS hl0
set_option maxHeartbeats 4000000 in
set_option maxRecDepth 100000 in
/-- run -/
theorem c_M0_run (l : Launch) (dC : Nat → ClassId) (dI : Nat → Nat → Nat) (c0 : ClassId) (a : Nat → Nat) (sz : Nat) (th : Int32) (n : Nat) (wk sd bt lt lo : Nat → Int32) (ct : Nat) (rk ad : Nat → Int32) (sp gd rf : Int32) (sm : Int64) (js sn wl : Int32) (vl bg cm : Nat → Int32) (w : Int32) (y : Int32) (hn : n ≤ 40) (hct : ct ≤ 24) : Met l yM0_run wsM0_run ({ frames := 2, cells := 0, slots := 0, locals := 45 }) (va_Pc [.ref (a 0), .int w, .int y] (PM dC dI c0 a (th, n, wk, sd, bt, lt, lo, ct, rk, ad, sp, gd, rf, sm, js, sn, wl, vl, bg, cm) sz)) (va_Qi (fun (r : Int32) (u : mS) => m_run (th, n, wk, sd, bt, lt, lo, ct, rk, ad, sp, gd, rf, sm, js, sn, wl, vl, bg, cm) w y = (r, u)) (BM dC dI c0 a (va_A (wM c0 a (th, n, wk, sd, bt, lt, lo, ct, rk, ad, sp, gd, rf, sm, js, sn, wl, vl, bg, cm)) sz)) (va_A (wM c0 a (th, n, wk, sd, bt, lt, lo, ct, rk, ad, sp, gd, rf, sm, js, sn, wl, vl, bg, cm)) sz)) 0 0 (va_A (wM c0 a (th, n, wk, sd, bt, lt, lo, ct, rk, ad, sp, gd, rf, sm, js, sn, wl, vl, bg, cm)) sz) := by
  refine Met.ofW (cc := cM0_run) (maxL := 5) (ret := (some .int)) (by decide) rfl ?_
  intro p e s m args below meth c s₁ B hml hv
  obtain ⟨rfl, hsz, hP, hK, hD0, hE⟩ := hv
  have hx := B.exec
  have hb := B.bytes
  have hr := B.returns
  have hown : s.vm.findClass RM0 = some m.cls := findClass_of_methodNamed B.named
  have hlocks := B.notSynchronized
  subst hsz
  have hD := hD0.self (sz := s.heap.size)
  generalize hAe : va_A (wM c0 a (th, n, wk, sd, bt, lt, lo, ct, rk, ad, sp, gd, rf, sm, js, sn, wl, vl, bg, cm)) s.heap.size = A at hD hE ⊢
  have hts := hE.ts (args := ([.ref (a 0), .int w, .int y] : List Value).toArray)
  have hA : ∀ q : Nat, s.heap.size ≤ q → A q := fun q h => by rw [← hAe]; exact Or.inr h
  have hS : va_S A s.heap s.heap [] := va_S.rf
  have hP : va_P (dC, dI) vwCl (wM c0 a (th, n, wk, sd, bt, lt, lo, ct, rk, ad, sp, gd, rf, sm, js, sn, wl, vl, bg, cm)) s.heap := hP
  refine gz (P := fun Z => W p l e _ s m _ below meth c _ _ _ _ Z _) (fun Z hZ => ?_)
  show W p l e _ s m _ below meth c _ _ _ _ Z _
  have hl := lv_entry ([.ref (a 0), .int w, .int y]) (n := 5) (Nat.le_of_ble_eq_true rfl)
  rw [lg_entry_eq]
  generalize (lg_sl ([.ref (a 0), .int w, .int y]) ++ List.replicate (5 - (lg_sl ([.ref (a 0), .int w, .int y])).length) Slot.unset).toArray = ls at hl ⊢
  have hl : lv_has ls 5 [(0, .ref (a 0)), (1, .int w), (2, .int y)] := hl
  refine lv_iload_n hx hb dM0_run_0 rfl (lv_at hl 1 rfl) ?_
  refine lv_iconst (v := 1) hx hb dM0_run_1 (by decide) ?_
  refine lv_bipush (v := 6) hx hb dM0_run_2 (by decide) ?_
  have hFc := fre hD hS hA
  refine va_calli (va_runS (As := [.int w, .int 1, .int 6]) (rest := []) ⟨hx, hb, hml, hown, hts⟩ (c_M0_in l dC dI c0 a _ th n wk sd bt lt lo ct rk ad sp gd rf sm js sn wl vl bg cm w 1 6) (va_cwS 3 hts gM0_run_M0_in rfl rfl rfl (by decide +kernel) ⟨(Nat.le_of_ble_eq_true rfl), (Nat.le_of_ble_eq_true rfl)⟩) ⟨PM_blind, PM_give hP hK hD hE hS hFc⟩ rfl rfl hl.1 rfl (lv_room (Nat.le_of_ble_eq_true rfl)) dM0_run_4 ⟨by decide, by decide⟩) hS (fun q _ h => hFc q h) hFc (fun r_4 u t H1 locs ht hvm hw hB hz1 hk1 hS => ?_)
  obtain ⟨rfl, rfl⟩ := hw
  obtain ⟨hP, hD⟩ := PM_take ht hFc hB
  generalize H1 = H at hP hS ⊢
  have hP : va_P (dC, dI) vwCl (wM c0 a (th, n, wk, sd, bt, lt, lo, ct, rk, ad, sp, gd, rf, sm, js, sn, wl, vl, bg, cm)) H := hP
  have hD : va_D A (wM c0 a (th, n, wk, sd, bt, lt, lo, ct, rk, ad, sp, gd, rf, sm, js, sn, wl, vl, bg, cm)) := hD
  refine lv_if_ne (tgt := 16) hx hb dM0_run_7 (by decide) (fun c_7 => ?_) (fun c_7 => ?_)
  · skip
    refine lv_aload_n hx hb dM0_run_16 rfl (lv_at hl 0 rfl) ?_
    refine lv_iconst (v := 0) hx hb dM0_run_17 (by decide) ?_
    refine va_put (D := (dC, dI)) (ci := 4) (v := .int 0) (ty := .int) (C := RM0) (T := TM0) (N := 20) hx hb hts inM0 tyM0 tyM0_ok nmM0 hown hK hP hD hS 0 rfl rfl 0 (by decide) (hE.t m_427 rfl) (fun _ h9 => h9) rfl (by decide +kernel) rfl rfl (Nat.le_of_ble_eq_true rfl) dM0_run_18 (fun H locs hP hD hS => ?_)
    have hP : va_P (dC, dI) vwCl (wM c0 a (0, n, wk, sd, bt, lt, lo, ct, rk, ad, sp, gd, rf, sm, js, sn, wl, vl, bg, cm)) H := hP
    have hD : va_D A (wM c0 a (0, n, wk, sd, bt, lt, lo, ct, rk, ad, sp, gd, rf, sm, js, sn, wl, vl, bg, cm)) := hD
    refine lv_iconst (v := 0) hx hb dM0_run_21 (by decide) ?_
    refine lv_istore_n (lv' := [(3, .int 0), (0, .ref (a 0)), (1, .int w), (2, .int y)]) hx hb dM0_run_22 rfl hl (by decide) rfl (fun ls hl => ?_)
    refine lv_iconst (v := 0) hx hb dM0_run_23 (by decide) ?_
    refine lv_istore (lv' := [(4, .int 0), (3, .int 0), (0, .ref (a 0)), (1, .int w), (2, .int y)]) hx hb dM0_run_24 hl (by decide) rfl (fun ls hl => ?_)
    have hloop26 : ∀ (fu : Nat) (i : Nat), n + 1 ≤ i + fu → i ≤ n → ∀ (H : Heap) (locs : List Loc) (ls : Array Slot), va_P (dC, dI) vwCl (wM c0 a (0, n, wk, sd, bt, lt, lo, ct, rk, ad, sp, gd, rf, sm, js, sn, wl, vl, bg, cm)) H → va_D A (wM c0 a (0, n, wk, sd, bt, lt, lo, ct, rk, ad, sp, gd, rf, sm, js, sn, wl, vl, bg, cm)) → va_S A s.heap H locs → lv_has ls 5 [(0, .ref (a 0)), (1, .int w), (2, .int y), (3, .int (sumL lo i)), (4, .int (nI i))] → W p l e (headSpec wsM0_run ({ frames := 2, cells := 0, slots := 0, locals := 45 })).room s m ([.ref (a 0), .int w, .int y] : List Value).toArray below meth c H locs 0 0 Z (F0 m 26 ls []) := by
      intro fu
      induction fu with
      | zero =>
        intro i hfu hi
        exact absurd hfu (by omega)
      | succ fu ih26 =>
        intro i hfu hi H locs ls hP hD hS hl
        refine lv_iload hx hb dM0_run_26 (lv_at hl 4 rfl) ?_
        refine lv_aload_n hx hb dM0_run_28 rfl (lv_at hl 0 rfl) ?_
        refine va_get (D := (dC, dI)) (ci := 4) (v := .int (nI n)) (C := RM0) (T := TM0) (N := 20) hx hb hts inM0 hown hK hP 0 rfl rfl 1 (by decide) (hE.t m_428 rfl) (fun _ h9 => h9) rfl dM0_run_29 ?_
        refine lv_icmp_ge (tgt := 51) hx hb dM0_run_32 (by decide) (fun c_32 => ?_) (fun c_32 => ?_)
        · skip
          have hie : i = n := by
            have h9 := (nI_leI (a := n) (b := i) (by omega) (by omega)).mp c_32
            omega
          rw [hie] at hl
          refine lv_iload_n hx hb dM0_run_51 rfl (lv_at hl 3 rfl) ?_
          refine lv_iload_n hx hb dM0_run_52 rfl (lv_at hl 1 rfl) ?_
          refine lv_icmp_lt (tgt := 69) hx hb dM0_run_53 (by decide) (fun c_53 => ?_) (fun c_53 => ?_)
          · skip
            refine lv_aload_n hx hb dM0_run_69 rfl (lv_at hl 0 rfl) ?_
            refine lv_dup hx hb dM0_run_70 rfl ?_
            refine va_get (D := (dC, dI)) (ci := 4) (v := .int gd) (C := RM0) (T := TM0) (N := 20) hx hb hts inM0 hown hK hP 0 rfl rfl 11 (by decide) (hE.t m_438 rfl) (fun _ h9 => h9) rfl dM0_run_71 ?_
            refine lv_iconst (v := 1) hx hb dM0_run_74 (by decide) ?_
            refine lv_iadd hx hb dM0_run_75 ?_
            refine va_put (D := (dC, dI)) (ci := 4) (v := .int (gd + 1)) (ty := .int) (C := RM0) (T := TM0) (N := 20) hx hb hts inM0 tyM0 tyM0_ok nmM0 hown hK hP hD hS 0 rfl rfl 11 (by decide) (hE.t m_438 rfl) (fun _ h9 => h9) rfl (by decide +kernel) rfl rfl (Nat.le_of_ble_eq_true rfl) dM0_run_76 (fun H locs hP hD hS => ?_)
            have hP : va_P (dC, dI) vwCl (wM c0 a (0, n, wk, sd, bt, lt, lo, ct, rk, ad, sp, gd + 1, rf, sm, js, sn, wl, vl, bg, cm)) H := hP
            have hD : va_D A (wM c0 a (0, n, wk, sd, bt, lt, lo, ct, rk, ad, sp, gd + 1, rf, sm, js, sn, wl, vl, bg, cm)) := hD
            refine lv_aload_n hx hb dM0_run_79 rfl (lv_at hl 0 rfl) ?_
            refine lv_iload_n hx hb dM0_run_80 rfl (lv_at hl 1 rfl) ?_
            refine lv_iload_n hx hb dM0_run_81 rfl (lv_at hl 3 rfl) ?_
            refine lv_isub hx hb dM0_run_82 ?_
            refine va_put (D := (dC, dI)) (ci := 4) (v := .int (w - (sumL lo n))) (ty := .int) (C := RM0) (T := TM0) (N := 20) hx hb hts inM0 tyM0 tyM0_ok nmM0 hown hK hP hD hS 0 rfl rfl 16 (by decide) (hE.t m_443 rfl) (fun _ h9 => h9) rfl (by decide +kernel) rfl rfl (Nat.le_of_ble_eq_true rfl) dM0_run_83 (fun H locs hP hD hS => ?_)
            have hP : va_P (dC, dI) vwCl (wM c0 a (0, n, wk, sd, bt, lt, lo, ct, rk, ad, sp, gd + 1, rf, sm, js, sn, w - (sumL lo n), vl, bg, cm)) H := hP
            have hD : va_D A (wM c0 a (0, n, wk, sd, bt, lt, lo, ct, rk, ad, sp, gd + 1, rf, sm, js, sn, w - (sumL lo n), vl, bg, cm)) := hD
            refine lv_aload_n hx hb dM0_run_86 rfl (lv_at hl 0 rfl) ?_
            refine lv_iconst (v := 0) hx hb dM0_run_87 (by decide) ?_
            refine va_put (D := (dC, dI)) (ci := 4) (v := .int 0) (ty := .int) (C := RM0) (T := TM0) (N := 20) hx hb hts inM0 tyM0 tyM0_ok nmM0 hown hK hP hD hS 0 rfl rfl 15 (by decide) (hE.t m_442 rfl) (fun _ h9 => h9) rfl (by decide +kernel) rfl rfl (Nat.le_of_ble_eq_true rfl) dM0_run_88 (fun H locs hP hD hS => ?_)
            have hP : va_P (dC, dI) vwCl (wM c0 a (0, n, wk, sd, bt, lt, lo, ct, rk, ad, sp, gd + 1, rf, sm, js, 0, w - (sumL lo n), vl, bg, cm)) H := hP
            have hD : va_D A (wM c0 a (0, n, wk, sd, bt, lt, lo, ct, rk, ad, sp, gd + 1, rf, sm, js, 0, w - (sumL lo n), vl, bg, cm)) := hD
            refine lv_iconst (v := 0) hx hb dM0_run_91 (by decide) ?_
            refine lv_istore (lv' := [(4, .int 0), (0, .ref (a 0)), (1, .int w), (2, .int y), (3, .int (sumL lo n))]) hx hb dM0_run_92 hl (by decide) rfl (fun ls hl => ?_)
            have hloop94 : ∀ (fu : Nat) (i : Nat), n + 1 ≤ i + fu → i ≤ n → ∀ (H : Heap) (locs : List Loc) (ls : Array Slot), va_P (dC, dI) vwCl (wM c0 a (0, n, wk, sd, bt, lt, lo, ct, rk, ad, sp, gd + 1, rf, sm, js, sumL (fun j => swm wk lt lo j) i, w - (sumL lo n), fil (fun j => vl9 (chx (sd j) (nI j) (wk j).toNatClampNeg)) vl i, fil (fun j => 1 + lo j) bg i, cm)) H → va_D A (wM c0 a (0, n, wk, sd, bt, lt, lo, ct, rk, ad, sp, gd + 1, rf, sm, js, sumL (fun j => swm wk lt lo j) i, w - (sumL lo n), fil (fun j => vl9 (chx (sd j) (nI j) (wk j).toNatClampNeg)) vl i, fil (fun j => 1 + lo j) bg i, cm)) → va_S A s.heap H locs → lv_has ls 5 [(0, .ref (a 0)), (1, .int w), (2, .int y), (3, .int (sumL lo n)), (4, .int (nI i))] → W p l e (headSpec wsM0_run ({ frames := 2, cells := 0, slots := 0, locals := 45 })).room s m ([.ref (a 0), .int w, .int y] : List Value).toArray below meth c H locs 0 0 Z (F0 m 94 ls []) := by
              intro fu
              induction fu with
              | zero =>
                intro i hfu hi2
                exact absurd hfu (by omega)
              | succ fu ih94 =>
                intro i hfu hi2 H locs ls hP hD hS hl
                refine lv_iload hx hb dM0_run_94 (lv_at hl 4 rfl) ?_
                refine lv_aload_n hx hb dM0_run_96 rfl (lv_at hl 0 rfl) ?_
                refine va_get (D := (dC, dI)) (ci := 4) (v := .int (nI n)) (C := RM0) (T := TM0) (N := 20) hx hb hts inM0 hown hK hP 0 rfl rfl 1 (by decide) (hE.t m_428 rfl) (fun _ h9 => h9) rfl dM0_run_97 ?_
                refine lv_icmp_ge (tgt := 208) hx hb dM0_run_100 (by decide) (fun c_100 => ?_) (fun c_100 => ?_)
                · skip
                  have hie : i = n := by
                    have h9 := (nI_leI (a := n) (b := i) (by omega) (by omega)).mp c_100
                    omega
                  rw [hie] at hP hD hl
                  refine lv_aload_n hx hb dM0_run_208 rfl (lv_at hl 0 rfl) ?_
                  have hFc := fre hD hS hA
                  refine va_calli (va_runV (As := []) (rest := []) ⟨hx, hb, hml, hown, hts⟩ (c_M0_join l dC dI c0 a _ 0 n wk sd bt lt lo ct rk ad sp (gd + 1) rf sm js (sumL (fun j => swm wk lt lo j) n) (w - (sumL lo n)) (fil (fun j => vl9 (chx (sd j) (nI j) (wk j).toNatClampNeg)) vl n) (fil (fun j => 1 + lo j) bg n) cm hn hct) (cwV 0 hts gM0_run_M0_join rfl rfl rfl (by decide +kernel) ⟨(Nat.le_of_ble_eq_true rfl), (Nat.le_of_ble_eq_true rfl)⟩) ⟨PM_blind, va_recv hK hP (ci := 4) (q0 := 0) rfl rfl, PM_give hP hK hD hE hS hFc⟩ rfl rfl hl.1 rfl (lv_room (Nat.le_of_ble_eq_true rfl)) dM0_run_209 ⟨by decide, by decide⟩) hS (fun q _ h => hFc q h) hFc (fun r_209 u t H1 locs ht hvm hw hB hz1 hk1 hS => ?_)
                  obtain ⟨s9, c9, j9, hJ9, rfl⟩ := hw
                  obtain ⟨hP, hD⟩ := PM_take ht hFc hB
                  generalize H1 = H at hP hS ⊢
                  have hP : va_P (dC, dI) vwCl (wM c0 a (0, n, wk, sd, bt, lt, lo, ct, rk, ad, sp, gd + 1, rf, s9, nI j9, sumL (fun j => swm wk lt lo j) n, w - (sumL lo n), fil (fun j => vl9 (chx (sd j) (nI j) (wk j).toNatClampNeg)) vl n, fil (fun j => 1 + lo j) bg n, c9)) H := hP
                  have hD : va_D A (wM c0 a (0, n, wk, sd, bt, lt, lo, ct, rk, ad, sp, gd + 1, rf, s9, nI j9, sumL (fun j => swm wk lt lo j) n, w - (sumL lo n), fil (fun j => vl9 (chx (sd j) (nI j) (wk j).toNatClampNeg)) vl n, fil (fun j => 1 + lo j) bg n, c9)) := hD
                  rw [hZ]
                  exact W.iret (v := r_209) hx hb hr (fun t ht hW => ⟨⟨r_209, (0, n, wk, sd, bt, lt, lo, ct, rk, ad, sp, gd + 1, rf, s9, nI j9, sumL (fun j => swm wk lt lo j) n, w - (sumL lo n), fil (fun j => vl9 (chx (sd j) (nI j) (wk j).toNatClampNeg)) vl n, fil (fun j => 1 + lo j) bg n, c9), rfl, (by simp only [m_run, c_7, c_53, ↓reduceIte, hJ9]), by rw [ht]; exact hP, va_K.moved hW.alike hK, hD⟩, hS.F ht⟩) hS.2.2 dM0_run_212
                · skip
                  have hlt : i < n := by
                    rcases Nat.lt_or_ge i n with h9 | h9
                    · exact h9
                    · exact absurd (nI_le h9 (by omega)) c_100
                  refine lv_aload_n hx hb dM0_run_103 rfl (lv_at hl 0 rfl) ?_
                  refine va_get (D := (dC, dI)) (ci := 4) (v := .ref (a 8)) (C := RM0) (T := TM0) (N := 20) hx hb hts inM0 hown hK hP 0 rfl rfl 17 (by decide) (hE.t m_444 rfl) (fun _ h9 => h9) rfl dM0_run_104 ?_
                  refine lv_iload hx hb dM0_run_107 (lv_at hl 4 rfl) ?_
                  refine lv_aload_n hx hb dM0_run_109 rfl (lv_at hl 0 rfl) ?_
                  refine lv_iload hx hb dM0_run_110 (lv_at hl 4 rfl) ?_
                  refine lv_aload_n hx hb dM0_run_112 rfl (lv_at hl 0 rfl) ?_
                  refine va_get (D := (dC, dI)) (ci := 4) (v := .ref (a 1)) (C := RM0) (T := TM0) (N := 20) hx hb hts inM0 hown hK hP 0 rfl rfl 2 (by decide) (hE.t m_429 rfl) (fun _ h9 => h9) rfl dM0_run_113 ?_
                  refine lv_iload hx hb dM0_run_116 (lv_at hl 4 rfl) ?_
                  refine va_iald hx hb hK hP 1 0 rfl rfl (vp_in_nI (by omega) (by omega)) dM0_run_118 ?_
                  rw [nI_clamp (n := i) (by omega)]
                  have hFc := fre hD hS hA
                  refine va_calll (va_runV (As := [.int (nI i), .int (wk i)]) (rest := [.int (nI i), .ref (a 8)]) ⟨hx, hb, hml, hown, hts⟩ (c_M0_after l dC dI c0 a _ 0 n wk sd bt lt lo ct rk ad sp (gd + 1) rf sm js (sumL (fun j => swm wk lt lo j) i) (w - (sumL lo n)) (fil (fun j => vl9 (chx (sd j) (nI j) (wk j).toNatClampNeg)) vl i) (fil (fun j => 1 + lo j) bg i) cm (nI i) (wk i) (vp_in_nI (by omega) (by omega))) (cwV 2 hts gM0_run_M0_after rfl rfl rfl (by decide +kernel) ⟨(Nat.le_of_ble_eq_true rfl), (Nat.le_of_ble_eq_true rfl)⟩) ⟨PM_blind, va_recv hK hP (ci := 4) (q0 := 0) rfl rfl, PM_give hP hK hD hE hS hFc⟩ rfl rfl hl.1 rfl (lv_room (Nat.le_of_ble_eq_true rfl)) dM0_run_119 ⟨by decide, by decide⟩) hS (fun q _ h => hFc q h) hFc (fun r_119 u t H1 locs ht hvm hw hB hz1 hk1 hS => ?_)
                  obtain ⟨rfl, rfl⟩ := hw
                  obtain ⟨hP, hD⟩ := PM_take ht hFc hB
                  generalize H1 = H at hP hS ⊢
                  have hP : va_P (dC, dI) vwCl (wM c0 a (0, n, wk, sd, bt, lt, lo, ct, rk, ad, sp, gd + 1, rf, sm, js, sumL (fun j => swm wk lt lo j) i, w - (sumL lo n), fil (fun j => vl9 (chx (sd j) (nI j) (wk j).toNatClampNeg)) vl i, fil (fun j => 1 + lo j) bg i, cm)) H := hP
                  have hD : va_D A (wM c0 a (0, n, wk, sd, bt, lt, lo, ct, rk, ad, sp, gd + 1, rf, sm, js, sumL (fun j => swm wk lt lo j) i, w - (sumL lo n), fil (fun j => vl9 (chx (sd j) (nI j) (wk j).toNatClampNeg)) vl i, fil (fun j => 1 + lo j) bg i, cm)) := hD
                  rw [nI_clamp (n := i) (by omega)]
                  refine lv_bipush (v := 33) hx hb dM0_run_122 (by decide) ?_
                  refine lv_lushr hx hb dM0_run_124 (v := ((chx (sd i) (nI i) (wk i).toNatClampNeg).toUInt64 >>> ((33 : Int32).toInt64.toUInt64 &&& Int64.toUInt64 63)).toInt64) rfl ?_
                  refine lv_l2i hx hb dM0_run_125 (v := (((chx (sd i) (nI i) (wk i).toNatClampNeg).toUInt64 >>> ((33 : Int32).toInt64.toUInt64 &&& Int64.toUInt64 63)).toInt64).toInt32) rfl ?_
                  refine va_iast hx hb hK hP hD hS 8 0 rfl rfl (vp_in_nI (by omega) (by omega)) dM0_run_126 (fun H locs hP hD hS => ?_)
                  rw [nI_clamp (n := i) (by omega)] at hP hD
                  have hP : va_P (dC, dI) vwCl (wM c0 a (0, n, wk, sd, bt, lt, lo, ct, rk, ad, sp, gd + 1, rf, sm, js, sumL (fun j => swm wk lt lo j) i, w - (sumL lo n), upd (fil (fun j => vl9 (chx (sd j) (nI j) (wk j).toNatClampNeg)) vl i) i ((((chx (sd i) (nI i) (wk i).toNatClampNeg).toUInt64 >>> ((33 : Int32).toInt64.toUInt64 &&& Int64.toUInt64 63)).toInt64).toInt32), fil (fun j => 1 + lo j) bg i, cm)) H := hP
                  have hD : va_D A (wM c0 a (0, n, wk, sd, bt, lt, lo, ct, rk, ad, sp, gd + 1, rf, sm, js, sumL (fun j => swm wk lt lo j) i, w - (sumL lo n), upd (fil (fun j => vl9 (chx (sd j) (nI j) (wk j).toNatClampNeg)) vl i) i ((((chx (sd i) (nI i) (wk i).toNatClampNeg).toUInt64 >>> ((33 : Int32).toInt64.toUInt64 &&& Int64.toUInt64 63)).toInt64).toInt32), fil (fun j => 1 + lo j) bg i, cm)) := hD
                  refine lv_aload_n hx hb dM0_run_127 rfl (lv_at hl 0 rfl) ?_
                  refine va_get (D := (dC, dI)) (ci := 4) (v := .ref (a 9)) (C := RM0) (T := TM0) (N := 20) hx hb hts inM0 hown hK hP 0 rfl rfl 18 (by decide) (hE.t m_445 rfl) (fun _ h9 => h9) rfl dM0_run_128 ?_
                  refine lv_iload hx hb dM0_run_131 (lv_at hl 4 rfl) ?_
                  refine lv_iconst (v := 1) hx hb dM0_run_133 (by decide) ?_
                  refine lv_aload_n hx hb dM0_run_134 rfl (lv_at hl 0 rfl) ?_
                  refine va_get (D := (dC, dI)) (ci := 4) (v := .ref (a 5)) (C := RM0) (T := TM0) (N := 20) hx hb hts inM0 hown hK hP 0 rfl rfl 6 (by decide) (hE.t m_433 rfl) (fun _ h9 => h9) rfl dM0_run_135 ?_
                  refine lv_iload hx hb dM0_run_138 (lv_at hl 4 rfl) ?_
                  refine va_iald hx hb hK hP 5 0 rfl rfl (vp_in_nI (by omega) (by omega)) dM0_run_140 ?_
                  rw [nI_clamp (n := i) (by omega)]
                  refine lv_iadd hx hb dM0_run_141 ?_
                  refine va_iast hx hb hK hP hD hS 9 0 rfl rfl (vp_in_nI (by omega) (by omega)) dM0_run_142 (fun H locs hP hD hS => ?_)
                  rw [nI_clamp (n := i) (by omega)] at hP hD
                  have hP : va_P (dC, dI) vwCl (wM c0 a (0, n, wk, sd, bt, lt, lo, ct, rk, ad, sp, gd + 1, rf, sm, js, sumL (fun j => swm wk lt lo j) i, w - (sumL lo n), upd (fil (fun j => vl9 (chx (sd j) (nI j) (wk j).toNatClampNeg)) vl i) i ((((chx (sd i) (nI i) (wk i).toNatClampNeg).toUInt64 >>> ((33 : Int32).toInt64.toUInt64 &&& Int64.toUInt64 63)).toInt64).toInt32), upd (fil (fun j => 1 + lo j) bg i) i (1 + (lo i)), cm)) H := hP
                  have hD : va_D A (wM c0 a (0, n, wk, sd, bt, lt, lo, ct, rk, ad, sp, gd + 1, rf, sm, js, sumL (fun j => swm wk lt lo j) i, w - (sumL lo n), upd (fil (fun j => vl9 (chx (sd j) (nI j) (wk j).toNatClampNeg)) vl i) i ((((chx (sd i) (nI i) (wk i).toNatClampNeg).toUInt64 >>> ((33 : Int32).toInt64.toUInt64 &&& Int64.toUInt64 63)).toInt64).toInt32), upd (fil (fun j => 1 + lo j) bg i) i (1 + (lo i)), cm)) := hD
                  refine lv_aload_n hx hb dM0_run_143 rfl (lv_at hl 0 rfl) ?_
                  refine lv_dup hx hb dM0_run_144 rfl ?_
                  refine va_get (D := (dC, dI)) (ci := 4) (v := .int (sumL (fun j => swm wk lt lo j) i)) (C := RM0) (T := TM0) (N := 20) hx hb hts inM0 hown hK hP 0 rfl rfl 15 (by decide) (hE.t m_442 rfl) (fun _ h9 => h9) rfl dM0_run_145 ?_
                  refine lv_aload_n hx hb dM0_run_148 rfl (lv_at hl 0 rfl) ?_
                  refine va_get (D := (dC, dI)) (ci := 4) (v := .ref (a 1)) (C := RM0) (T := TM0) (N := 20) hx hb hts inM0 hown hK hP 0 rfl rfl 2 (by decide) (hE.t m_429 rfl) (fun _ h9 => h9) rfl dM0_run_149 ?_
                  refine lv_iload hx hb dM0_run_152 (lv_at hl 4 rfl) ?_
                  refine va_iald hx hb hK hP 1 0 rfl rfl (vp_in_nI (by omega) (by omega)) dM0_run_154 ?_
                  rw [nI_clamp (n := i) (by omega)]
                  refine lv_aload_n hx hb dM0_run_155 rfl (lv_at hl 0 rfl) ?_
                  refine va_get (D := (dC, dI)) (ci := 4) (v := .ref (a 5)) (C := RM0) (T := TM0) (N := 20) hx hb hts inM0 hown hK hP 0 rfl rfl 6 (by decide) (hE.t m_433 rfl) (fun _ h9 => h9) rfl dM0_run_156 ?_
                  refine lv_iload hx hb dM0_run_159 (lv_at hl 4 rfl) ?_
                  refine va_iald hx hb hK hP 5 0 rfl rfl (vp_in_nI (by omega) (by omega)) dM0_run_161 ?_
                  rw [nI_clamp (n := i) (by omega)]
                  refine lv_aload_n hx hb dM0_run_162 rfl (lv_at hl 0 rfl) ?_
                  refine va_get (D := (dC, dI)) (ci := 4) (v := .ref (a 4)) (C := RM0) (T := TM0) (N := 20) hx hb hts inM0 hown hK hP 0 rfl rfl 5 (by decide) (hE.t m_432 rfl) (fun _ h9 => h9) rfl dM0_run_163 ?_
                  refine lv_iload hx hb dM0_run_166 (lv_at hl 4 rfl) ?_
                  refine va_iald hx hb hK hP 4 0 rfl rfl (vp_in_nI (by omega) (by omega)) dM0_run_168 ?_
                  rw [nI_clamp (n := i) (by omega)]
                  refine lv_aload_n hx hb dM0_run_169 rfl (lv_at hl 0 rfl) ?_
                  refine va_get (D := (dC, dI)) (ci := 4) (v := .ref (a 1)) (C := RM0) (T := TM0) (N := 20) hx hb hts inM0 hown hK hP 0 rfl rfl 2 (by decide) (hE.t m_429 rfl) (fun _ h9 => h9) rfl dM0_run_170 ?_
                  refine lv_iload hx hb dM0_run_173 (lv_at hl 4 rfl) ?_
                  refine va_iald hx hb hK hP 1 0 rfl rfl (vp_in_nI (by omega) (by omega)) dM0_run_175 ?_
                  rw [nI_clamp (n := i) (by omega)]
                  refine lv_icmp_ge (tgt := 189) hx hb dM0_run_176 (by decide) (fun c_176 => ?_) (fun c_176 => ?_)
                  · skip
                    refine lv_aload_n hx hb dM0_run_189 rfl (lv_at hl 0 rfl) ?_
                    refine va_get (D := (dC, dI)) (ci := 4) (v := .ref (a 1)) (C := RM0) (T := TM0) (N := 20) hx hb hts inM0 hown hK hP 0 rfl rfl 2 (by decide) (hE.t m_429 rfl) (fun _ h9 => h9) rfl dM0_run_190 ?_
                    refine lv_iload hx hb dM0_run_193 (lv_at hl 4 rfl) ?_
                    refine va_iald hx hb hK hP 1 0 rfl rfl (vp_in_nI (by omega) (by omega)) dM0_run_195 ?_
                    rw [nI_clamp (n := i) (by omega)]
                    refine lv_imul hx hb dM0_run_196 ?_
                    refine lv_iadd hx hb dM0_run_197 ?_
                    refine lv_iadd hx hb dM0_run_198 ?_
                    refine va_put (D := (dC, dI)) (ci := 4) (v := .int ((sumL (fun j => swm wk lt lo j) i) + ((wk i) + ((lo i) * (wk i))))) (ty := .int) (C := RM0) (T := TM0) (N := 20) hx hb hts inM0 tyM0 tyM0_ok nmM0 hown hK hP hD hS 0 rfl rfl 15 (by decide) (hE.t m_442 rfl) (fun _ h9 => h9) rfl (by decide +kernel) rfl rfl (Nat.le_of_ble_eq_true rfl) dM0_run_199 (fun H locs hP hD hS => ?_)
                    have hP : va_P (dC, dI) vwCl (wM c0 a (0, n, wk, sd, bt, lt, lo, ct, rk, ad, sp, gd + 1, rf, sm, js, (sumL (fun j => swm wk lt lo j) i) + ((wk i) + ((lo i) * (wk i))), w - (sumL lo n), upd (fil (fun j => vl9 (chx (sd j) (nI j) (wk j).toNatClampNeg)) vl i) i ((((chx (sd i) (nI i) (wk i).toNatClampNeg).toUInt64 >>> ((33 : Int32).toInt64.toUInt64 &&& Int64.toUInt64 63)).toInt64).toInt32), upd (fil (fun j => 1 + lo j) bg i) i (1 + (lo i)), cm)) H := hP
                    have hD : va_D A (wM c0 a (0, n, wk, sd, bt, lt, lo, ct, rk, ad, sp, gd + 1, rf, sm, js, (sumL (fun j => swm wk lt lo j) i) + ((wk i) + ((lo i) * (wk i))), w - (sumL lo n), upd (fil (fun j => vl9 (chx (sd j) (nI j) (wk j).toNatClampNeg)) vl i) i ((((chx (sd i) (nI i) (wk i).toNatClampNeg).toUInt64 >>> ((33 : Int32).toInt64.toUInt64 &&& Int64.toUInt64 63)).toInt64).toInt32), upd (fil (fun j => 1 + lo j) bg i) i (1 + (lo i)), cm)) := hD
                    refine lv_iinc (v := nI (i + 1)) (lv' := [(4, .int (nI (i + 1))), (0, .ref (a 0)), (1, .int w), (2, .int y), (3, .int (sumL lo n))]) hx hb dM0_run_202 hl (k := 4) rfl (by rw [← nI_1]; rfl) (by decide) rfl (fun ls hl => ?_)
                    refine lv_goto (tgt := 94) hx hb dM0_run_205 (by decide) ?_
                    have e1 : sumL (fun j => swm wk lt lo j) (i + 1) = (sumL (fun j => swm wk lt lo j) i) + ((wk i) + ((lo i) * (wk i))) := by simp only [sumL, swm, c_176, ↓reduceIte]
                    rw [← e1] at hP hD
                    exact ih94 (i + 1) (by omega) (by omega) _ _ _ hP hD hS (lv_sub hl [1, 2, 3, 4, 0] rfl)
                  · skip
                    refine lv_aload_n hx hb dM0_run_179 rfl (lv_at hl 0 rfl) ?_
                    refine va_get (D := (dC, dI)) (ci := 4) (v := .ref (a 4)) (C := RM0) (T := TM0) (N := 20) hx hb hts inM0 hown hK hP 0 rfl rfl 5 (by decide) (hE.t m_432 rfl) (fun _ h9 => h9) rfl dM0_run_180 ?_
                    refine lv_iload hx hb dM0_run_183 (lv_at hl 4 rfl) ?_
                    refine va_iald hx hb hK hP 4 0 rfl rfl (vp_in_nI (by omega) (by omega)) dM0_run_185 ?_
                    rw [nI_clamp (n := i) (by omega)]
                    refine lv_goto (tgt := 196) hx hb dM0_run_186 (by decide) ?_
                    refine lv_imul hx hb dM0_run_196 ?_
                    refine lv_iadd hx hb dM0_run_197 ?_
                    refine lv_iadd hx hb dM0_run_198 ?_
                    refine va_put (D := (dC, dI)) (ci := 4) (v := .int ((sumL (fun j => swm wk lt lo j) i) + ((wk i) + ((lo i) * (lt i))))) (ty := .int) (C := RM0) (T := TM0) (N := 20) hx hb hts inM0 tyM0 tyM0_ok nmM0 hown hK hP hD hS 0 rfl rfl 15 (by decide) (hE.t m_442 rfl) (fun _ h9 => h9) rfl (by decide +kernel) rfl rfl (Nat.le_of_ble_eq_true rfl) dM0_run_199 (fun H locs hP hD hS => ?_)
                    have hP : va_P (dC, dI) vwCl (wM c0 a (0, n, wk, sd, bt, lt, lo, ct, rk, ad, sp, gd + 1, rf, sm, js, (sumL (fun j => swm wk lt lo j) i) + ((wk i) + ((lo i) * (lt i))), w - (sumL lo n), upd (fil (fun j => vl9 (chx (sd j) (nI j) (wk j).toNatClampNeg)) vl i) i ((((chx (sd i) (nI i) (wk i).toNatClampNeg).toUInt64 >>> ((33 : Int32).toInt64.toUInt64 &&& Int64.toUInt64 63)).toInt64).toInt32), upd (fil (fun j => 1 + lo j) bg i) i (1 + (lo i)), cm)) H := hP
                    have hD : va_D A (wM c0 a (0, n, wk, sd, bt, lt, lo, ct, rk, ad, sp, gd + 1, rf, sm, js, (sumL (fun j => swm wk lt lo j) i) + ((wk i) + ((lo i) * (lt i))), w - (sumL lo n), upd (fil (fun j => vl9 (chx (sd j) (nI j) (wk j).toNatClampNeg)) vl i) i ((((chx (sd i) (nI i) (wk i).toNatClampNeg).toUInt64 >>> ((33 : Int32).toInt64.toUInt64 &&& Int64.toUInt64 63)).toInt64).toInt32), upd (fil (fun j => 1 + lo j) bg i) i (1 + (lo i)), cm)) := hD
                    refine lv_iinc (v := nI (i + 1)) (lv' := [(4, .int (nI (i + 1))), (0, .ref (a 0)), (1, .int w), (2, .int y), (3, .int (sumL lo n))]) hx hb dM0_run_202 hl (k := 4) rfl (by rw [← nI_1]; rfl) (by decide) rfl (fun ls hl => ?_)
                    refine lv_goto (tgt := 94) hx hb dM0_run_205 (by decide) ?_
                    have e1 : sumL (fun j => swm wk lt lo j) (i + 1) = (sumL (fun j => swm wk lt lo j) i) + ((wk i) + ((lo i) * (lt i))) := by simp only [sumL, swm, c_176, ↓reduceIte]
                    rw [← e1] at hP hD
                    exact ih94 (i + 1) (by omega) (by omega) _ _ _ hP hD hS (lv_sub hl [1, 2, 3, 4, 0] rfl)
            have hl0 : lv_has ls 5 [(0, .ref (a 0)), (1, .int w), (2, .int y), (3, .int (sumL lo n)), (4, .int (nI 0))] := by
              rw [nI_0]; exact lv_sub hl [1, 2, 3, 4, 0] rfl
            exact hloop94 (n + 1) 0 (by omega) (by omega) _ _ _ hP hD hS hl0
          · skip
            refine lv_aload_n hx hb dM0_run_56 rfl (lv_at hl 0 rfl) ?_
            refine lv_dup hx hb dM0_run_57 rfl ?_
            refine va_get (D := (dC, dI)) (ci := 4) (v := .int rf) (C := RM0) (T := TM0) (N := 20) hx hb hts inM0 hown hK hP 0 rfl rfl 12 (by decide) (hE.t m_439 rfl) (fun _ h9 => h9) rfl dM0_run_58 ?_
            refine lv_iconst (v := 1) hx hb dM0_run_61 (by decide) ?_
            refine lv_iadd hx hb dM0_run_62 ?_
            refine va_put (D := (dC, dI)) (ci := 4) (v := .int (rf + 1)) (ty := .int) (C := RM0) (T := TM0) (N := 20) hx hb hts inM0 tyM0 tyM0_ok nmM0 hown hK hP hD hS 0 rfl rfl 12 (by decide) (hE.t m_439 rfl) (fun _ h9 => h9) rfl (by decide +kernel) rfl rfl (Nat.le_of_ble_eq_true rfl) dM0_run_63 (fun H locs hP hD hS => ?_)
            have hP : va_P (dC, dI) vwCl (wM c0 a (0, n, wk, sd, bt, lt, lo, ct, rk, ad, sp, gd, rf + 1, sm, js, sn, wl, vl, bg, cm)) H := hP
            have hD : va_D A (wM c0 a (0, n, wk, sd, bt, lt, lo, ct, rk, ad, sp, gd, rf + 1, sm, js, sn, wl, vl, bg, cm)) := hD
            refine lv_bipush (v := (-2)) hx hb dM0_run_66 (by decide) ?_
            rw [hZ]
            exact W.iret (v := (-2)) hx hb hr (fun t ht hW => ⟨⟨(-2), (0, n, wk, sd, bt, lt, lo, ct, rk, ad, sp, gd, rf + 1, sm, js, sn, wl, vl, bg, cm), rfl, (by simp only [m_run, c_7, c_32, c_53, ↓reduceIte]), by rw [ht]; exact hP, va_K.moved hW.alike hK, hD⟩, hS.F ht⟩) hS.2.2 dM0_run_68
        · skip
          have hlt : i < n := by
            rcases Nat.lt_or_ge i n with h9 | h9
            · exact h9
            · exact absurd (nI_le h9 (by omega)) c_32
          refine lv_iload_n hx hb dM0_run_35 rfl (lv_at hl 3 rfl) ?_
          refine lv_aload_n hx hb dM0_run_36 rfl (lv_at hl 0 rfl) ?_
          refine va_get (D := (dC, dI)) (ci := 4) (v := .ref (a 5)) (C := RM0) (T := TM0) (N := 20) hx hb hts inM0 hown hK hP 0 rfl rfl 6 (by decide) (hE.t m_433 rfl) (fun _ h9 => h9) rfl dM0_run_37 ?_
          refine lv_iload hx hb dM0_run_40 (lv_at hl 4 rfl) ?_
          refine va_iald hx hb hK hP 5 0 rfl rfl (vp_in_nI (by omega) (by omega)) dM0_run_42 ?_
          rw [nI_clamp (n := i) (by omega)]
          refine lv_iadd hx hb dM0_run_43 ?_
          refine lv_istore_n (lv' := [(3, .int ((sumL lo i) + (lo i))), (0, .ref (a 0)), (1, .int w), (2, .int y), (4, .int (nI i))]) hx hb dM0_run_44 rfl hl (by decide) rfl (fun ls hl => ?_)
          refine lv_iinc (v := nI (i + 1)) (lv' := [(4, .int (nI (i + 1))), (3, .int ((sumL lo i) + (lo i))), (0, .ref (a 0)), (1, .int w), (2, .int y)]) hx hb dM0_run_45 hl (k := 4) rfl (by rw [← nI_1]; rfl) (by decide) rfl (fun ls hl => ?_)
          refine lv_goto (tgt := 26) hx hb dM0_run_48 (by decide) ?_
          exact ih26 (i + 1) (by omega) (by omega) _ _ _ hP hD hS (lv_sub hl [2, 3, 4, 1, 0] rfl)
    have hl0 : lv_has ls 5 [(0, .ref (a 0)), (1, .int w), (2, .int y), (3, .int (sumL lo 0)), (4, .int (nI 0))] := by
      rw [nI_0]; exact lv_sub hl [2, 3, 4, 1, 0] rfl
    exact hloop26 (n + 1) 0 (by omega) (by omega) _ _ _ hP hD hS hl0
  · skip
    refine lv_aload_n hx hb dM0_run_10 rfl (lv_at hl 0 rfl) ?_
    refine lv_iconst (v := 1) hx hb dM0_run_11 (by decide) ?_
    have hFc := fre hD hS hA
    refine va_calli (va_runV (As := [.int 1]) (rest := []) ⟨hx, hb, hml, hown, hts⟩ (c_M0_refuse l dC dI c0 a _ th n wk sd bt lt lo ct rk ad sp gd rf sm js sn wl vl bg cm 1) (cwV 1 hts gM0_run_M0_refuse rfl rfl rfl (by decide +kernel) ⟨(Nat.le_of_ble_eq_true rfl), (Nat.le_of_ble_eq_true rfl)⟩) ⟨PM_blind, va_recv hK hP (ci := 4) (q0 := 0) rfl rfl, PM_give hP hK hD hE hS hFc⟩ rfl rfl hl.1 rfl (lv_room (Nat.le_of_ble_eq_true rfl)) dM0_run_12 ⟨by decide, by decide⟩) hS (fun q _ h => hFc q h) hFc (fun r_12 u t H1 locs ht hvm hw hB hz1 hk1 hS => ?_)
    obtain ⟨rfl, rfl⟩ := hw
    obtain ⟨hP, hD⟩ := PM_take ht hFc hB
    generalize H1 = H at hP hS ⊢
    have hP : va_P (dC, dI) vwCl (wM c0 a (1, n, wk, sd, bt, lt, lo, ct, rk, ad, sp, gd, rf, sm, js, sn, wl, vl, bg, cm)) H := hP
    have hD : va_D A (wM c0 a (1, n, wk, sd, bt, lt, lo, ct, rk, ad, sp, gd, rf, sm, js, sn, wl, vl, bg, cm)) := hD
    rw [hZ]
    exact W.iret (v := 0) hx hb hr (fun t ht hW => ⟨⟨0, (1, n, wk, sd, bt, lt, lo, ct, rk, ad, sp, gd, rf, sm, js, sn, wl, vl, bg, cm), rfl, (by simp only [m_run, eq_true c_7, ↓reduceIte]), by rw [ht]; exact hP, va_K.moved hW.alike hK, hD⟩, hS.F ht⟩) hS.2.2 dM0_run_15
set_option maxHeartbeats 4000000 in
set_option maxRecDepth 100000 in
/-- isNone() -/
theorem c_M0_isNone (l : Launch) (dC : Nat → ClassId) (dI : Nat → Nat → Nat) (c0 : ClassId) (a : Nat → Nat) (sz : Nat) (th : Int32) (n : Nat) (wk sd bt lt lo : Nat → Int32) (ct : Nat) (rk ad : Nat → Int32) (sp gd rf : Int32) (sm : Int64) (js sn wl : Int32) (vl bg cm : Nat → Int32) : Met l yM0_isNone wsM0_isNone ({ frames := 0, cells := 0, slots := 0, locals := 0 }) (va_Pc [.ref (a 0)] (PM dC dI c0 a (th, n, wk, sd, bt, lt, lo, ct, rk, ad, sp, gd, rf, sm, js, sn, wl, vl, bg, cm) sz)) (va_Qi (fun (r : Int32) (u : mS) => u = (nn gd, n, wk, sd, bt, lt, lo, ct, rk, ad, sp, gd, rf, sm, js, sn, wl, vl, bg, cm) ∧ r = nn gd) (BM dC dI c0 a (va_A (wM c0 a (th, n, wk, sd, bt, lt, lo, ct, rk, ad, sp, gd, rf, sm, js, sn, wl, vl, bg, cm)) sz)) (va_A (wM c0 a (th, n, wk, sd, bt, lt, lo, ct, rk, ad, sp, gd, rf, sm, js, sn, wl, vl, bg, cm)) sz)) 0 0 (va_A (wM c0 a (th, n, wk, sd, bt, lt, lo, ct, rk, ad, sp, gd, rf, sm, js, sn, wl, vl, bg, cm)) sz) := by
  refine Met.ofW (cc := cM0_isNone) (maxL := 1) (ret := (some .boolean)) (by decide) rfl ?_
  intro p e s m args below meth c s₁ B hml hv
  obtain ⟨rfl, hsz, hP, hK, hD0, hE⟩ := hv
  have hx := B.exec
  have hb := B.bytes
  have hr := B.returns
  have hown : s.vm.findClass RM0 = some m.cls := findClass_of_methodNamed B.named
  have hlocks := B.notSynchronized
  subst hsz
  have hD := hD0.self (sz := s.heap.size)
  generalize hAe : va_A (wM c0 a (th, n, wk, sd, bt, lt, lo, ct, rk, ad, sp, gd, rf, sm, js, sn, wl, vl, bg, cm)) s.heap.size = A at hD hE ⊢
  have hts := hE.ts (args := ([.ref (a 0)] : List Value).toArray)
  have hA : ∀ q : Nat, s.heap.size ≤ q → A q := fun q h => by rw [← hAe]; exact Or.inr h
  have hS : va_S A s.heap s.heap [] := va_S.rf
  have hP : va_P (dC, dI) vwCl (wM c0 a (th, n, wk, sd, bt, lt, lo, ct, rk, ad, sp, gd, rf, sm, js, sn, wl, vl, bg, cm)) s.heap := hP
  have hl := lv_entry ([.ref (a 0)]) (n := 1) (Nat.le_of_ble_eq_true rfl)
  rw [lg_entry_eq]
  generalize (lg_sl ([.ref (a 0)]) ++ List.replicate (1 - (lg_sl ([.ref (a 0)])).length) Slot.unset).toArray = ls at hl ⊢
  have hl : lv_has ls 1 [(0, .ref (a 0))] := hl
  refine lv_aload_n hx hb dM0_isNone_0 rfl (lv_at hl 0 rfl) ?_
  refine lv_aload_n hx hb dM0_isNone_1 rfl (lv_at hl 0 rfl) ?_
  refine va_get (D := (dC, dI)) (ci := 4) (v := .int gd) (C := RM0) (T := TM0) (N := 20) hx hb hts inM0 hown hK hP 0 rfl rfl 11 (by decide) (hE.t m_438 rfl) (fun _ h9 => h9) rfl dM0_isNone_2 ?_
  refine lv_if_ne (tgt := 12) hx hb dM0_isNone_5 (by decide) (fun c_5 => ?_) (fun c_5 => ?_)
  · skip
    refine lv_iconst (v := 0) hx hb dM0_isNone_12 (by decide) ?_
    refine va_put (D := (dC, dI)) (ci := 4) (v := .int 0) (ty := .int) (C := RM0) (T := TM0) (N := 20) hx hb hts inM0 tyM0 tyM0_ok nmM0 hown hK hP hD hS 0 rfl rfl 0 (by decide) (hE.t m_427 rfl) (fun _ h9 => h9) rfl (by decide +kernel) rfl rfl (Nat.le_of_ble_eq_true rfl) dM0_isNone_13 (fun H locs hP hD hS => ?_)
    have hP : va_P (dC, dI) vwCl (wM c0 a (0, n, wk, sd, bt, lt, lo, ct, rk, ad, sp, gd, rf, sm, js, sn, wl, vl, bg, cm)) H := hP
    have hD : va_D A (wM c0 a (0, n, wk, sd, bt, lt, lo, ct, rk, ad, sp, gd, rf, sm, js, sn, wl, vl, bg, cm)) := hD
    refine lv_aload_n hx hb dM0_isNone_16 rfl (lv_at hl 0 rfl) ?_
    refine va_get (D := (dC, dI)) (ci := 4) (v := .int gd) (C := RM0) (T := TM0) (N := 20) hx hb hts inM0 hown hK hP 0 rfl rfl 11 (by decide) (hE.t m_438 rfl) (fun _ h9 => h9) rfl dM0_isNone_17 ?_
    refine lv_if_ne (tgt := 27) hx hb dM0_isNone_20 (by decide) (fun c_20 => ?_) (fun c_20 => ?_)
    · skip
      refine lv_iconst (v := 0) hx hb dM0_isNone_27 (by decide) ?_
      exact W.zret (v := 0) hx hb hr rfl (fun t ht hW => ⟨⟨0, (0, n, wk, sd, bt, lt, lo, ct, rk, ad, sp, gd, rf, sm, js, sn, wl, vl, bg, cm), rfl, ⟨(by simp only [nn, c_5, c_20, ↓reduceIte]), (by simp only [nn, c_5, c_20, ↓reduceIte])⟩, by rw [ht]; exact hP, va_K.moved hW.alike hK, hD⟩, hS.F ht⟩) hS.2.2 dM0_isNone_28
    · skip
      exact absurd c_20 c_5
  · skip
    refine lv_iconst (v := 1) hx hb dM0_isNone_8 (by decide) ?_
    refine lv_goto (tgt := 13) hx hb dM0_isNone_9 (by decide) ?_
    refine va_put (D := (dC, dI)) (ci := 4) (v := .int 1) (ty := .int) (C := RM0) (T := TM0) (N := 20) hx hb hts inM0 tyM0 tyM0_ok nmM0 hown hK hP hD hS 0 rfl rfl 0 (by decide) (hE.t m_427 rfl) (fun _ h9 => h9) rfl (by decide +kernel) rfl rfl (Nat.le_of_ble_eq_true rfl) dM0_isNone_13 (fun H locs hP hD hS => ?_)
    have hP : va_P (dC, dI) vwCl (wM c0 a (1, n, wk, sd, bt, lt, lo, ct, rk, ad, sp, gd, rf, sm, js, sn, wl, vl, bg, cm)) H := hP
    have hD : va_D A (wM c0 a (1, n, wk, sd, bt, lt, lo, ct, rk, ad, sp, gd, rf, sm, js, sn, wl, vl, bg, cm)) := hD
    refine lv_aload_n hx hb dM0_isNone_16 rfl (lv_at hl 0 rfl) ?_
    refine va_get (D := (dC, dI)) (ci := 4) (v := .int gd) (C := RM0) (T := TM0) (N := 20) hx hb hts inM0 hown hK hP 0 rfl rfl 11 (by decide) (hE.t m_438 rfl) (fun _ h9 => h9) rfl dM0_isNone_17 ?_
    refine lv_if_ne (tgt := 27) hx hb dM0_isNone_20 (by decide) (fun c_20 => ?_) (fun c_20 => ?_)
    · skip
      exact absurd c_5 c_20
    · skip
      refine lv_iconst (v := 1) hx hb dM0_isNone_23 (by decide) ?_
      refine lv_goto (tgt := 28) hx hb dM0_isNone_24 (by decide) ?_
      exact W.zret (v := 1) hx hb hr rfl (fun t ht hW => ⟨⟨1, (1, n, wk, sd, bt, lt, lo, ct, rk, ad, sp, gd, rf, sm, js, sn, wl, vl, bg, cm), rfl, ⟨(by simp only [nn, eq_true c_5, eq_true c_20, ↓reduceIte]), (by simp only [nn, eq_true c_5, eq_true c_20, ↓reduceIte])⟩, by rw [ht]; exact hP, va_K.moved hW.alike hK, hD⟩, hS.F ht⟩) hS.2.2 dM0_isNone_28
set_option maxHeartbeats 4000000 in
set_option maxRecDepth 100000 in
/-- joined -/
theorem c_M0_joined (l : Launch) (dC : Nat → ClassId) (dI : Nat → Nat → Nat) (c0 : ClassId) (a : Nat → Nat) (sz : Nat) (th : Int32) (n : Nat) (wk sd bt lt lo : Nat → Int32) (ct : Nat) (rk ad : Nat → Int32) (sp gd rf : Int32) (sm : Int64) (js sn wl : Int32) (vl bg cm : Nat → Int32) : Met l yM0_joined wsM0_joined ({ frames := 1, cells := 0, slots := 0, locals := 25 }) (va_Pc [.ref (a 0)] (PM dC dI c0 a (th, n, wk, sd, bt, lt, lo, ct, rk, ad, sp, gd, rf, sm, js, sn, wl, vl, bg, cm) sz)) (va_Ql (fun (r : Int64) (u : mS) => m_joined (th, n, wk, sd, bt, lt, lo, ct, rk, ad, sp, gd, rf, sm, js, sn, wl, vl, bg, cm) = (r, u)) (BM dC dI c0 a (va_A (wM c0 a (th, n, wk, sd, bt, lt, lo, ct, rk, ad, sp, gd, rf, sm, js, sn, wl, vl, bg, cm)) sz)) (va_A (wM c0 a (th, n, wk, sd, bt, lt, lo, ct, rk, ad, sp, gd, rf, sm, js, sn, wl, vl, bg, cm)) sz)) 0 0 (va_A (wM c0 a (th, n, wk, sd, bt, lt, lo, ct, rk, ad, sp, gd, rf, sm, js, sn, wl, vl, bg, cm)) sz) := by
  refine Met.ofW (cc := cM0_joined) (maxL := 1) (ret := (some .long)) (by decide) rfl ?_
  intro p e s m args below meth c s₁ B hml hv
  obtain ⟨rfl, hsz, hP, hK, hD0, hE⟩ := hv
  have hx := B.exec
  have hb := B.bytes
  have hr := B.returns
  have hown : s.vm.findClass RM0 = some m.cls := findClass_of_methodNamed B.named
  have hlocks := B.notSynchronized
  subst hsz
  have hD := hD0.self (sz := s.heap.size)
  generalize hAe : va_A (wM c0 a (th, n, wk, sd, bt, lt, lo, ct, rk, ad, sp, gd, rf, sm, js, sn, wl, vl, bg, cm)) s.heap.size = A at hD hE ⊢
  have hts := hE.ts (args := ([.ref (a 0)] : List Value).toArray)
  have hA : ∀ q : Nat, s.heap.size ≤ q → A q := fun q h => by rw [← hAe]; exact Or.inr h
  have hS : va_S A s.heap s.heap [] := va_S.rf
  have hP : va_P (dC, dI) vwCl (wM c0 a (th, n, wk, sd, bt, lt, lo, ct, rk, ad, sp, gd, rf, sm, js, sn, wl, vl, bg, cm)) s.heap := hP
  have hl := lv_entry ([.ref (a 0)]) (n := 1) (Nat.le_of_ble_eq_true rfl)
  rw [lg_entry_eq]
  generalize (lg_sl ([.ref (a 0)]) ++ List.replicate (1 - (lg_sl ([.ref (a 0)])).length) Slot.unset).toArray = ls at hl ⊢
  have hl : lv_has ls 1 [(0, .ref (a 0))] := hl
  refine lv_aload_n hx hb dM0_joined_0 rfl (lv_at hl 0 rfl) ?_
  have hFc := fre hD hS hA
  refine va_calli (va_runV (As := []) (rest := []) ⟨hx, hb, hml, hown, hts⟩ (c_M0_isNone l dC dI c0 a _ th n wk sd bt lt lo ct rk ad sp gd rf sm js sn wl vl bg cm ) (cwV 0 hts gM0_joined_M0_isNone rfl rfl rfl (by decide +kernel) ⟨(Nat.le_of_ble_eq_true rfl), (Nat.le_of_ble_eq_true rfl)⟩) ⟨PM_blind, va_recv hK hP (ci := 4) (q0 := 0) rfl rfl, PM_give hP hK hD hE hS hFc⟩ rfl rfl hl.1 rfl (lv_room (Nat.le_of_ble_eq_true rfl)) dM0_joined_1 ⟨by decide, by decide⟩) hS (fun q _ h => hFc q h) hFc (fun r_1 u t H1 locs ht hvm hw hB hz1 hk1 hS => ?_)
  obtain ⟨rfl, rfl⟩ := hw
  obtain ⟨hP, hD⟩ := PM_take ht hFc hB
  generalize H1 = H at hP hS ⊢
  have hP : va_P (dC, dI) vwCl (wM c0 a (nn gd, n, wk, sd, bt, lt, lo, ct, rk, ad, sp, gd, rf, sm, js, sn, wl, vl, bg, cm)) H := hP
  have hD : va_D A (wM c0 a (nn gd, n, wk, sd, bt, lt, lo, ct, rk, ad, sp, gd, rf, sm, js, sn, wl, vl, bg, cm)) := hD
  refine lv_if_eq (tgt := 11) hx hb dM0_joined_4 (by decide) (fun c_4 => ?_) (fun c_4 => ?_)
  · skip
    refine lv_aload_n hx hb dM0_joined_11 rfl (lv_at hl 0 rfl) ?_
    refine va_get (D := (dC, dI)) (ci := 4) (v := .long sm) (C := RM0) (T := TM0) (N := 20) hx hb hts inM0 hown hK hP 0 rfl rfl 13 (by decide) (hE.t m_440 rfl) (fun _ h9 => h9) rfl dM0_joined_12 ?_
    exact W.lret (v := sm) hx hb hr (fun t ht hW => ⟨⟨sm, (nn gd, n, wk, sd, bt, lt, lo, ct, rk, ad, sp, gd, rf, sm, js, sn, wl, vl, bg, cm), rfl, (by simp only [m_joined, eq_true c_4, ↓reduceIte]), by rw [ht]; exact hP, va_K.moved hW.alike hK, hD⟩, hS.F ht⟩) hS.2.2 dM0_joined_15
  · skip
    refine lv_lconst (v := 0) hx hb dM0_joined_7 (by decide) ?_
    refine lv_goto (tgt := 15) hx hb dM0_joined_8 (by decide) ?_
    exact W.lret (v := 0) hx hb hr (fun t ht hW => ⟨⟨0, (nn gd, n, wk, sd, bt, lt, lo, ct, rk, ad, sp, gd, rf, sm, js, sn, wl, vl, bg, cm), rfl, (by simp only [m_joined, c_4, ↓reduceIte]), by rw [ht]; exact hP, va_K.moved hW.alike hK, hD⟩, hS.F ht⟩) hS.2.2 dM0_joined_15
set_option maxHeartbeats 4000000 in
set_option maxRecDepth 100000 in
/-- many -/
theorem c_M0_many (l : Launch) (dC : Nat → ClassId) (dI : Nat → Nat → Nat) (c0 : ClassId) (a : Nat → Nat) (sz : Nat) (th : Int32) (n : Nat) (wk sd bt lt lo : Nat → Int32) (ct : Nat) (rk ad : Nat → Int32) (sp gd rf : Int32) (sm : Int64) (js sn wl : Int32) (vl bg cm : Nat → Int32) : Met l yM0_many wsM0_many ({ frames := 1, cells := 0, slots := 0, locals := 25 }) (va_Pc [.ref (a 0)] (PM dC dI c0 a (th, n, wk, sd, bt, lt, lo, ct, rk, ad, sp, gd, rf, sm, js, sn, wl, vl, bg, cm) sz)) (va_Qi (fun (r : Int32) (u : mS) => m_many (th, n, wk, sd, bt, lt, lo, ct, rk, ad, sp, gd, rf, sm, js, sn, wl, vl, bg, cm) = (r, u)) (BM dC dI c0 a (va_A (wM c0 a (th, n, wk, sd, bt, lt, lo, ct, rk, ad, sp, gd, rf, sm, js, sn, wl, vl, bg, cm)) sz)) (va_A (wM c0 a (th, n, wk, sd, bt, lt, lo, ct, rk, ad, sp, gd, rf, sm, js, sn, wl, vl, bg, cm)) sz)) 0 0 (va_A (wM c0 a (th, n, wk, sd, bt, lt, lo, ct, rk, ad, sp, gd, rf, sm, js, sn, wl, vl, bg, cm)) sz) := by
  refine Met.ofW (cc := cM0_many) (maxL := 1) (ret := (some .int)) (by decide) rfl ?_
  intro p e s m args below meth c s₁ B hml hv
  obtain ⟨rfl, hsz, hP, hK, hD0, hE⟩ := hv
  have hx := B.exec
  have hb := B.bytes
  have hr := B.returns
  have hown : s.vm.findClass RM0 = some m.cls := findClass_of_methodNamed B.named
  have hlocks := B.notSynchronized
  subst hsz
  have hD := hD0.self (sz := s.heap.size)
  generalize hAe : va_A (wM c0 a (th, n, wk, sd, bt, lt, lo, ct, rk, ad, sp, gd, rf, sm, js, sn, wl, vl, bg, cm)) s.heap.size = A at hD hE ⊢
  have hts := hE.ts (args := ([.ref (a 0)] : List Value).toArray)
  have hA : ∀ q : Nat, s.heap.size ≤ q → A q := fun q h => by rw [← hAe]; exact Or.inr h
  have hS : va_S A s.heap s.heap [] := va_S.rf
  have hP : va_P (dC, dI) vwCl (wM c0 a (th, n, wk, sd, bt, lt, lo, ct, rk, ad, sp, gd, rf, sm, js, sn, wl, vl, bg, cm)) s.heap := hP
  have hl := lv_entry ([.ref (a 0)]) (n := 1) (Nat.le_of_ble_eq_true rfl)
  rw [lg_entry_eq]
  generalize (lg_sl ([.ref (a 0)]) ++ List.replicate (1 - (lg_sl ([.ref (a 0)])).length) Slot.unset).toArray = ls at hl ⊢
  have hl : lv_has ls 1 [(0, .ref (a 0))] := hl
  refine lv_aload_n hx hb dM0_many_0 rfl (lv_at hl 0 rfl) ?_
  have hFc := fre hD hS hA
  refine va_calli (va_runV (As := []) (rest := []) ⟨hx, hb, hml, hown, hts⟩ (c_M0_isNone l dC dI c0 a _ th n wk sd bt lt lo ct rk ad sp gd rf sm js sn wl vl bg cm ) (cwV 0 hts gM0_many_M0_isNone rfl rfl rfl (by decide +kernel) ⟨(Nat.le_of_ble_eq_true rfl), (Nat.le_of_ble_eq_true rfl)⟩) ⟨PM_blind, va_recv hK hP (ci := 4) (q0 := 0) rfl rfl, PM_give hP hK hD hE hS hFc⟩ rfl rfl hl.1 rfl (lv_room (Nat.le_of_ble_eq_true rfl)) dM0_many_1 ⟨by decide, by decide⟩) hS (fun q _ h => hFc q h) hFc (fun r_1 u t H1 locs ht hvm hw hB hz1 hk1 hS => ?_)
  obtain ⟨rfl, rfl⟩ := hw
  obtain ⟨hP, hD⟩ := PM_take ht hFc hB
  generalize H1 = H at hP hS ⊢
  have hP : va_P (dC, dI) vwCl (wM c0 a (nn gd, n, wk, sd, bt, lt, lo, ct, rk, ad, sp, gd, rf, sm, js, sn, wl, vl, bg, cm)) H := hP
  have hD : va_D A (wM c0 a (nn gd, n, wk, sd, bt, lt, lo, ct, rk, ad, sp, gd, rf, sm, js, sn, wl, vl, bg, cm)) := hD
  refine lv_if_eq (tgt := 11) hx hb dM0_many_4 (by decide) (fun c_4 => ?_) (fun c_4 => ?_)
  · skip
    refine lv_aload_n hx hb dM0_many_11 rfl (lv_at hl 0 rfl) ?_
    refine va_get (D := (dC, dI)) (ci := 4) (v := .int js) (C := RM0) (T := TM0) (N := 20) hx hb hts inM0 hown hK hP 0 rfl rfl 14 (by decide) (hE.t m_441 rfl) (fun _ h9 => h9) rfl dM0_many_12 ?_
    exact W.iret (v := js) hx hb hr (fun t ht hW => ⟨⟨js, (nn gd, n, wk, sd, bt, lt, lo, ct, rk, ad, sp, gd, rf, sm, js, sn, wl, vl, bg, cm), rfl, (by simp only [m_many, eq_true c_4, ↓reduceIte]), by rw [ht]; exact hP, va_K.moved hW.alike hK, hD⟩, hS.F ht⟩) hS.2.2 dM0_many_15
  · skip
    refine lv_iconst (v := 0) hx hb dM0_many_7 (by decide) ?_
    refine lv_goto (tgt := 15) hx hb dM0_many_8 (by decide) ?_
    exact W.iret (v := 0) hx hb hr (fun t ht hW => ⟨⟨0, (nn gd, n, wk, sd, bt, lt, lo, ct, rk, ad, sp, gd, rf, sm, js, sn, wl, vl, bg, cm), rfl, (by simp only [m_many, c_4, ↓reduceIte]), by rw [ht]; exact hP, va_K.moved hW.alike hK, hD⟩, hS.F ht⟩) hS.2.2 dM0_many_15
set_option maxHeartbeats 4000000 in
set_option maxRecDepth 100000 in
/-- isRefused(b) -/
theorem c_M0_isRefused (l : Launch) (dC : Nat → ClassId) (dI : Nat → Nat → Nat) (c0 : ClassId) (a : Nat → Nat) (sz : Nat) (th : Int32) (n : Nat) (wk sd bt lt lo : Nat → Int32) (ct : Nat) (rk ad : Nat → Int32) (sp gd rf : Int32) (sm : Int64) (js sn wl : Int32) (vl bg cm : Nat → Int32) (b : Int32) : Met l yM0_isRefused wsM0_isRefused ({ frames := 0, cells := 0, slots := 0, locals := 0 }) (va_Pc [.ref (a 0), .int b] (PM dC dI c0 a (th, n, wk, sd, bt, lt, lo, ct, rk, ad, sp, gd, rf, sm, js, sn, wl, vl, bg, cm) sz)) (va_Qi (fun (r : Int32) (u : mS) => u = (rft b gd, n, wk, sd, bt, lt, lo, ct, rk, ad, sp, gd, rf, sm, js, sn, wl, vl, bg, cm) ∧ r = rfr b gd) (BM dC dI c0 a (va_A (wM c0 a (th, n, wk, sd, bt, lt, lo, ct, rk, ad, sp, gd, rf, sm, js, sn, wl, vl, bg, cm)) sz)) (va_A (wM c0 a (th, n, wk, sd, bt, lt, lo, ct, rk, ad, sp, gd, rf, sm, js, sn, wl, vl, bg, cm)) sz)) 0 0 (va_A (wM c0 a (th, n, wk, sd, bt, lt, lo, ct, rk, ad, sp, gd, rf, sm, js, sn, wl, vl, bg, cm)) sz) := by
  refine Met.ofW (cc := cM0_isRefused) (maxL := 2) (ret := (some .boolean)) (by decide) rfl ?_
  intro p e s m args below meth c s₁ B hml hv
  obtain ⟨rfl, hsz, hP, hK, hD0, hE⟩ := hv
  have hx := B.exec
  have hb := B.bytes
  have hr := B.returns
  have hown : s.vm.findClass RM0 = some m.cls := findClass_of_methodNamed B.named
  have hlocks := B.notSynchronized
  subst hsz
  have hD := hD0.self (sz := s.heap.size)
  generalize hAe : va_A (wM c0 a (th, n, wk, sd, bt, lt, lo, ct, rk, ad, sp, gd, rf, sm, js, sn, wl, vl, bg, cm)) s.heap.size = A at hD hE ⊢
  have hts := hE.ts (args := ([.ref (a 0), .int b] : List Value).toArray)
  have hA : ∀ q : Nat, s.heap.size ≤ q → A q := fun q h => by rw [← hAe]; exact Or.inr h
  have hS : va_S A s.heap s.heap [] := va_S.rf
  have hP : va_P (dC, dI) vwCl (wM c0 a (th, n, wk, sd, bt, lt, lo, ct, rk, ad, sp, gd, rf, sm, js, sn, wl, vl, bg, cm)) s.heap := hP
  have hl := lv_entry ([.ref (a 0), .int b]) (n := 2) (Nat.le_of_ble_eq_true rfl)
  rw [lg_entry_eq]
  generalize (lg_sl ([.ref (a 0), .int b]) ++ List.replicate (2 - (lg_sl ([.ref (a 0), .int b])).length) Slot.unset).toArray = ls at hl ⊢
  have hl : lv_has ls 2 [(0, .ref (a 0)), (1, .int b)] := hl
  refine lv_aload_n hx hb dM0_isRefused_0 rfl (lv_at hl 0 rfl) ?_
  refine lv_iload_n hx hb dM0_isRefused_1 rfl (lv_at hl 1 rfl) ?_
  refine lv_if_ne (tgt := 9) hx hb dM0_isRefused_2 (by decide) (fun c_2 => ?_) (fun c_2 => ?_)
  · skip
    refine lv_aload_n hx hb dM0_isRefused_9 rfl (lv_at hl 0 rfl) ?_
    refine va_get (D := (dC, dI)) (ci := 4) (v := .int gd) (C := RM0) (T := TM0) (N := 20) hx hb hts inM0 hown hK hP 0 rfl rfl 11 (by decide) (hE.t m_438 rfl) (fun _ h9 => h9) rfl dM0_isRefused_10 ?_
    refine lv_if_ne (tgt := 20) hx hb dM0_isRefused_13 (by decide) (fun c_13 => ?_) (fun c_13 => ?_)
    · skip
      refine lv_iconst (v := 0) hx hb dM0_isRefused_20 (by decide) ?_
      refine va_put (D := (dC, dI)) (ci := 4) (v := .int 0) (ty := .int) (C := RM0) (T := TM0) (N := 20) hx hb hts inM0 tyM0 tyM0_ok nmM0 hown hK hP hD hS 0 rfl rfl 0 (by decide) (hE.t m_427 rfl) (fun _ h9 => h9) rfl (by decide +kernel) rfl rfl (Nat.le_of_ble_eq_true rfl) dM0_isRefused_21 (fun H locs hP hD hS => ?_)
      have hP : va_P (dC, dI) vwCl (wM c0 a (0, n, wk, sd, bt, lt, lo, ct, rk, ad, sp, gd, rf, sm, js, sn, wl, vl, bg, cm)) H := hP
      have hD : va_D A (wM c0 a (0, n, wk, sd, bt, lt, lo, ct, rk, ad, sp, gd, rf, sm, js, sn, wl, vl, bg, cm)) := hD
      refine lv_aload_n hx hb dM0_isRefused_24 rfl (lv_at hl 0 rfl) ?_
      refine va_get (D := (dC, dI)) (ci := 4) (v := .int 0) (C := RM0) (T := TM0) (N := 20) hx hb hts inM0 hown hK hP 0 rfl rfl 0 (by decide) (hE.t m_427 rfl) (fun _ h9 => h9) rfl dM0_isRefused_25 ?_
      refine lv_if_le (tgt := 35) hx hb dM0_isRefused_28 (by decide) (fun c_28 => ?_) (fun c_28 => ?_)
      · skip
        refine lv_iconst (v := 0) hx hb dM0_isRefused_35 (by decide) ?_
        exact W.zret (v := 0) hx hb hr rfl (fun t ht hW => ⟨⟨0, (0, n, wk, sd, bt, lt, lo, ct, rk, ad, sp, gd, rf, sm, js, sn, wl, vl, bg, cm), rfl, ⟨(by simp only [rft, c_2, c_13, c_28, ↓reduceIte]), (by simp only [rfr, rft, c_2, c_13, c_28, ↓reduceIte])⟩, by rw [ht]; exact hP, va_K.moved hW.alike hK, hD⟩, hS.F ht⟩) hS.2.2 dM0_isRefused_36
      · skip
        exact absurd (by decide) c_28
    · skip
      refine lv_iconst (v := 2) hx hb dM0_isRefused_16 (by decide) ?_
      refine lv_goto (tgt := 21) hx hb dM0_isRefused_17 (by decide) ?_
      refine va_put (D := (dC, dI)) (ci := 4) (v := .int 2) (ty := .int) (C := RM0) (T := TM0) (N := 20) hx hb hts inM0 tyM0 tyM0_ok nmM0 hown hK hP hD hS 0 rfl rfl 0 (by decide) (hE.t m_427 rfl) (fun _ h9 => h9) rfl (by decide +kernel) rfl rfl (Nat.le_of_ble_eq_true rfl) dM0_isRefused_21 (fun H locs hP hD hS => ?_)
      have hP : va_P (dC, dI) vwCl (wM c0 a (2, n, wk, sd, bt, lt, lo, ct, rk, ad, sp, gd, rf, sm, js, sn, wl, vl, bg, cm)) H := hP
      have hD : va_D A (wM c0 a (2, n, wk, sd, bt, lt, lo, ct, rk, ad, sp, gd, rf, sm, js, sn, wl, vl, bg, cm)) := hD
      refine lv_aload_n hx hb dM0_isRefused_24 rfl (lv_at hl 0 rfl) ?_
      refine va_get (D := (dC, dI)) (ci := 4) (v := .int 2) (C := RM0) (T := TM0) (N := 20) hx hb hts inM0 hown hK hP 0 rfl rfl 0 (by decide) (hE.t m_427 rfl) (fun _ h9 => h9) rfl dM0_isRefused_25 ?_
      refine lv_if_le (tgt := 35) hx hb dM0_isRefused_28 (by decide) (fun c_28 => ?_) (fun c_28 => ?_)
      · skip
        exact absurd c_28 (by decide)
      · skip
        refine lv_iconst (v := 1) hx hb dM0_isRefused_31 (by decide) ?_
        refine lv_goto (tgt := 36) hx hb dM0_isRefused_32 (by decide) ?_
        exact W.zret (v := 1) hx hb hr rfl (fun t ht hW => ⟨⟨1, (2, n, wk, sd, bt, lt, lo, ct, rk, ad, sp, gd, rf, sm, js, sn, wl, vl, bg, cm), rfl, ⟨(by simp only [rft, c_2, eq_true c_13, c_28, ↓reduceIte]), (by simp only [rfr, rft, c_2, eq_true c_13, c_28, ↓reduceIte])⟩, by rw [ht]; exact hP, va_K.moved hW.alike hK, hD⟩, hS.F ht⟩) hS.2.2 dM0_isRefused_36
  · skip
    refine lv_iconst (v := 1) hx hb dM0_isRefused_5 (by decide) ?_
    refine lv_goto (tgt := 21) hx hb dM0_isRefused_6 (by decide) ?_
    refine va_put (D := (dC, dI)) (ci := 4) (v := .int 1) (ty := .int) (C := RM0) (T := TM0) (N := 20) hx hb hts inM0 tyM0 tyM0_ok nmM0 hown hK hP hD hS 0 rfl rfl 0 (by decide) (hE.t m_427 rfl) (fun _ h9 => h9) rfl (by decide +kernel) rfl rfl (Nat.le_of_ble_eq_true rfl) dM0_isRefused_21 (fun H locs hP hD hS => ?_)
    have hP : va_P (dC, dI) vwCl (wM c0 a (1, n, wk, sd, bt, lt, lo, ct, rk, ad, sp, gd, rf, sm, js, sn, wl, vl, bg, cm)) H := hP
    have hD : va_D A (wM c0 a (1, n, wk, sd, bt, lt, lo, ct, rk, ad, sp, gd, rf, sm, js, sn, wl, vl, bg, cm)) := hD
    refine lv_aload_n hx hb dM0_isRefused_24 rfl (lv_at hl 0 rfl) ?_
    refine va_get (D := (dC, dI)) (ci := 4) (v := .int 1) (C := RM0) (T := TM0) (N := 20) hx hb hts inM0 hown hK hP 0 rfl rfl 0 (by decide) (hE.t m_427 rfl) (fun _ h9 => h9) rfl dM0_isRefused_25 ?_
    refine lv_if_le (tgt := 35) hx hb dM0_isRefused_28 (by decide) (fun c_28 => ?_) (fun c_28 => ?_)
    · skip
      exact absurd c_28 (by decide)
    · skip
      refine lv_iconst (v := 1) hx hb dM0_isRefused_31 (by decide) ?_
      refine lv_goto (tgt := 36) hx hb dM0_isRefused_32 (by decide) ?_
      exact W.zret (v := 1) hx hb hr rfl (fun t ht hW => ⟨⟨1, (1, n, wk, sd, bt, lt, lo, ct, rk, ad, sp, gd, rf, sm, js, sn, wl, vl, bg, cm), rfl, ⟨(by simp only [rft, eq_true c_2, c_28, ↓reduceIte]), (by simp only [rfr, rft, eq_true c_2, c_28, ↓reduceIte])⟩, by rw [ht]; exact hP, va_K.moved hW.alike hK, hD⟩, hS.F ht⟩) hS.2.2 dM0_isRefused_36
set_option maxHeartbeats 4000000 in
set_option maxRecDepth 100000 in
/-- value -/
theorem c_M0_value (l : Launch) (dC : Nat → ClassId) (dI : Nat → Nat → Nat) (c0 : ClassId) (a : Nat → Nat) (sz : Nat) (th : Int32) (n : Nat) (wk sd bt lt lo : Nat → Int32) (ct : Nat) (rk ad : Nat → Int32) (sp gd rf : Int32) (sm : Int64) (js sn wl : Int32) (vl bg cm : Nat → Int32) (k : Int32) (hn : n ≤ 40) : Met l yM0_value wsM0_value ({ frames := 1, cells := 0, slots := 0, locals := 25 }) (va_Pc [.ref (a 0), .int k] (PM dC dI c0 a (th, n, wk, sd, bt, lt, lo, ct, rk, ad, sp, gd, rf, sm, js, sn, wl, vl, bg, cm) sz)) (va_Qi (fun (r : Int32) (u : mS) => m_value (th, n, wk, sd, bt, lt, lo, ct, rk, ad, sp, gd, rf, sm, js, sn, wl, vl, bg, cm) k = (r, u)) (BM dC dI c0 a (va_A (wM c0 a (th, n, wk, sd, bt, lt, lo, ct, rk, ad, sp, gd, rf, sm, js, sn, wl, vl, bg, cm)) sz)) (va_A (wM c0 a (th, n, wk, sd, bt, lt, lo, ct, rk, ad, sp, gd, rf, sm, js, sn, wl, vl, bg, cm)) sz)) 0 0 (va_A (wM c0 a (th, n, wk, sd, bt, lt, lo, ct, rk, ad, sp, gd, rf, sm, js, sn, wl, vl, bg, cm)) sz) := by
  refine Met.ofW (cc := cM0_value) (maxL := 2) (ret := (some .int)) (by decide) rfl ?_
  intro p e s m args below meth c s₁ B hml hv
  obtain ⟨rfl, hsz, hP, hK, hD0, hE⟩ := hv
  have hx := B.exec
  have hb := B.bytes
  have hr := B.returns
  have hown : s.vm.findClass RM0 = some m.cls := findClass_of_methodNamed B.named
  have hlocks := B.notSynchronized
  subst hsz
  have hD := hD0.self (sz := s.heap.size)
  generalize hAe : va_A (wM c0 a (th, n, wk, sd, bt, lt, lo, ct, rk, ad, sp, gd, rf, sm, js, sn, wl, vl, bg, cm)) s.heap.size = A at hD hE ⊢
  have hts := hE.ts (args := ([.ref (a 0), .int k] : List Value).toArray)
  have hA : ∀ q : Nat, s.heap.size ≤ q → A q := fun q h => by rw [← hAe]; exact Or.inr h
  have hS : va_S A s.heap s.heap [] := va_S.rf
  have hP : va_P (dC, dI) vwCl (wM c0 a (th, n, wk, sd, bt, lt, lo, ct, rk, ad, sp, gd, rf, sm, js, sn, wl, vl, bg, cm)) s.heap := hP
  have hl := lv_entry ([.ref (a 0), .int k]) (n := 2) (Nat.le_of_ble_eq_true rfl)
  rw [lg_entry_eq]
  generalize (lg_sl ([.ref (a 0), .int k]) ++ List.replicate (2 - (lg_sl ([.ref (a 0), .int k])).length) Slot.unset).toArray = ls at hl ⊢
  have hl : lv_has ls 2 [(0, .ref (a 0)), (1, .int k)] := hl
  refine lv_aload_n hx hb dM0_value_0 rfl (lv_at hl 0 rfl) ?_
  refine lv_aload_n hx hb dM0_value_1 rfl (lv_at hl 0 rfl) ?_
  refine lv_iload_n hx hb dM0_value_2 rfl (lv_at hl 1 rfl) ?_
  have hFc := fre hD hS hA
  refine va_calli (va_runV (As := [.int k]) (rest := [.ref (a 0)]) ⟨hx, hb, hml, hown, hts⟩ (c_M0_isShare l dC dI c0 a _ th n wk sd bt lt lo ct rk ad sp gd rf sm js sn wl vl bg cm k) (cwV 1 hts gM0_value_M0_isShare rfl rfl rfl (by decide +kernel) ⟨(Nat.le_of_ble_eq_true rfl), (Nat.le_of_ble_eq_true rfl)⟩) ⟨PM_blind, va_recv hK hP (ci := 4) (q0 := 0) rfl rfl, PM_give hP hK hD hE hS hFc⟩ rfl rfl hl.1 rfl (lv_room (Nat.le_of_ble_eq_true rfl)) dM0_value_3 ⟨by decide, by decide⟩) hS (fun q _ h => hFc q h) hFc (fun r_3 u t H1 locs ht hvm hw hB hz1 hk1 hS => ?_)
  obtain ⟨rfl, rfl⟩ := hw
  obtain ⟨hP, hD⟩ := PM_take ht hFc hB
  generalize H1 = H at hP hS ⊢
  have hP : va_P (dC, dI) vwCl (wM c0 a (th, n, wk, sd, bt, lt, lo, ct, rk, ad, sp, gd, rf, sm, js, sn, wl, vl, bg, cm)) H := hP
  have hD : va_D A (wM c0 a (th, n, wk, sd, bt, lt, lo, ct, rk, ad, sp, gd, rf, sm, js, sn, wl, vl, bg, cm)) := hD
  have hFc := fre hD hS hA
  refine va_calli (va_runV (As := [.int (isS n k)]) (rest := []) ⟨hx, hb, hml, hown, hts⟩ (c_M0_isRefused l dC dI c0 a _ th n wk sd bt lt lo ct rk ad sp gd rf sm js sn wl vl bg cm (isS n k)) (cwV 1 hts gM0_value_M0_isRefused rfl rfl rfl (by decide +kernel) ⟨(Nat.le_of_ble_eq_true rfl), (Nat.le_of_ble_eq_true rfl)⟩) ⟨PM_blind, va_recv hK hP (ci := 4) (q0 := 0) rfl rfl, PM_give hP hK hD hE hS hFc⟩ rfl rfl hl.1 rfl (lv_room (Nat.le_of_ble_eq_true rfl)) dM0_value_6 ⟨by decide, by decide⟩) hS (fun q _ h => hFc q h) hFc (fun r_6 u t H1 locs ht hvm hw hB hz1 hk1 hS => ?_)
  obtain ⟨rfl, rfl⟩ := hw
  obtain ⟨hP, hD⟩ := PM_take ht hFc hB
  generalize H1 = H at hP hS ⊢
  have hP : va_P (dC, dI) vwCl (wM c0 a (rft (isS n k) gd, n, wk, sd, bt, lt, lo, ct, rk, ad, sp, gd, rf, sm, js, sn, wl, vl, bg, cm)) H := hP
  have hD : va_D A (wM c0 a (rft (isS n k) gd, n, wk, sd, bt, lt, lo, ct, rk, ad, sp, gd, rf, sm, js, sn, wl, vl, bg, cm)) := hD
  refine lv_if_eq (tgt := 16) hx hb dM0_value_9 (by decide) (fun c_9 => ?_) (fun c_9 => ?_)
  · skip
    have hk : vp_in k 40 := in_le (rfr_in c_9 (by omega)) hn
    refine lv_aload_n hx hb dM0_value_16 rfl (lv_at hl 0 rfl) ?_
    refine va_get (D := (dC, dI)) (ci := 4) (v := .ref (a 8)) (C := RM0) (T := TM0) (N := 20) hx hb hts inM0 hown hK hP 0 rfl rfl 17 (by decide) (hE.t m_444 rfl) (fun _ h9 => h9) rfl dM0_value_17 ?_
    refine lv_iload_n hx hb dM0_value_20 rfl (lv_at hl 1 rfl) ?_
    refine va_iald hx hb hK hP 8 0 rfl rfl hk dM0_value_21 ?_
    exact W.iret (v := vl k.toNatClampNeg) hx hb hr (fun t ht hW => ⟨⟨vl k.toNatClampNeg, (rft (isS n k) gd, n, wk, sd, bt, lt, lo, ct, rk, ad, sp, gd, rf, sm, js, sn, wl, vl, bg, cm), rfl, (by simp only [m_value, eq_true c_9, ↓reduceIte]), by rw [ht]; exact hP, va_K.moved hW.alike hK, hD⟩, hS.F ht⟩) hS.2.2 dM0_value_22
  · skip
    refine lv_iconst (v := 0) hx hb dM0_value_12 (by decide) ?_
    refine lv_goto (tgt := 22) hx hb dM0_value_13 (by decide) ?_
    exact W.iret (v := 0) hx hb hr (fun t ht hW => ⟨⟨0, (rft (isS n k) gd, n, wk, sd, bt, lt, lo, ct, rk, ad, sp, gd, rf, sm, js, sn, wl, vl, bg, cm), rfl, (by simp only [m_value, c_9, ↓reduceIte]), by rw [ht]; exact hP, va_K.moved hW.alike hK, hD⟩, hS.F ht⟩) hS.2.2 dM0_value_22
set_option maxHeartbeats 4000000 in
set_option maxRecDepth 100000 in
/-- chain -/
theorem c_M0_chain (l : Launch) (dC : Nat → ClassId) (dI : Nat → Nat → Nat) (c0 : ClassId) (a : Nat → Nat) (sz : Nat) (th : Int32) (n : Nat) (wk sd bt lt lo : Nat → Int32) (ct : Nat) (rk ad : Nat → Int32) (sp gd rf : Int32) (sm : Int64) (js sn wl : Int32) (vl bg cm : Nat → Int32) (k : Int32) (w : Int32) (hn : n ≤ 40) : Met l yM0_chain wsM0_chain ({ frames := 1, cells := 0, slots := 0, locals := 25 }) (va_Pc [.ref (a 0), .int k, .int w] (PM dC dI c0 a (th, n, wk, sd, bt, lt, lo, ct, rk, ad, sp, gd, rf, sm, js, sn, wl, vl, bg, cm) sz)) (va_Ql (fun (r : Int64) (u : mS) => m_chain (th, n, wk, sd, bt, lt, lo, ct, rk, ad, sp, gd, rf, sm, js, sn, wl, vl, bg, cm) k w = (r, u)) (BM dC dI c0 a (va_A (wM c0 a (th, n, wk, sd, bt, lt, lo, ct, rk, ad, sp, gd, rf, sm, js, sn, wl, vl, bg, cm)) sz)) (va_A (wM c0 a (th, n, wk, sd, bt, lt, lo, ct, rk, ad, sp, gd, rf, sm, js, sn, wl, vl, bg, cm)) sz)) 0 0 (va_A (wM c0 a (th, n, wk, sd, bt, lt, lo, ct, rk, ad, sp, gd, rf, sm, js, sn, wl, vl, bg, cm)) sz) := by
  refine Met.ofW (cc := cM0_chain) (maxL := 3) (ret := (some .long)) (by decide) rfl ?_
  intro p e s m args below meth c s₁ B hml hv
  obtain ⟨rfl, hsz, hP, hK, hD0, hE⟩ := hv
  have hx := B.exec
  have hb := B.bytes
  have hr := B.returns
  have hown : s.vm.findClass RM0 = some m.cls := findClass_of_methodNamed B.named
  have hlocks := B.notSynchronized
  subst hsz
  have hD := hD0.self (sz := s.heap.size)
  generalize hAe : va_A (wM c0 a (th, n, wk, sd, bt, lt, lo, ct, rk, ad, sp, gd, rf, sm, js, sn, wl, vl, bg, cm)) s.heap.size = A at hD hE ⊢
  have hts := hE.ts (args := ([.ref (a 0), .int k, .int w] : List Value).toArray)
  have hA : ∀ q : Nat, s.heap.size ≤ q → A q := fun q h => by rw [← hAe]; exact Or.inr h
  have hS : va_S A s.heap s.heap [] := va_S.rf
  have hP : va_P (dC, dI) vwCl (wM c0 a (th, n, wk, sd, bt, lt, lo, ct, rk, ad, sp, gd, rf, sm, js, sn, wl, vl, bg, cm)) s.heap := hP
  have hl := lv_entry ([.ref (a 0), .int k, .int w]) (n := 3) (Nat.le_of_ble_eq_true rfl)
  rw [lg_entry_eq]
  generalize (lg_sl ([.ref (a 0), .int k, .int w]) ++ List.replicate (3 - (lg_sl ([.ref (a 0), .int k, .int w])).length) Slot.unset).toArray = ls at hl ⊢
  have hl : lv_has ls 3 [(0, .ref (a 0)), (1, .int k), (2, .int w)] := hl
  refine lv_aload_n hx hb dM0_chain_0 rfl (lv_at hl 0 rfl) ?_
  refine lv_aload_n hx hb dM0_chain_1 rfl (lv_at hl 0 rfl) ?_
  refine lv_iload_n hx hb dM0_chain_2 rfl (lv_at hl 1 rfl) ?_
  have hFc := fre hD hS hA
  refine va_calli (va_runV (As := [.int k]) (rest := [.ref (a 0)]) ⟨hx, hb, hml, hown, hts⟩ (c_M0_isShare l dC dI c0 a _ th n wk sd bt lt lo ct rk ad sp gd rf sm js sn wl vl bg cm k) (cwV 1 hts gM0_chain_M0_isShare rfl rfl rfl (by decide +kernel) ⟨(Nat.le_of_ble_eq_true rfl), (Nat.le_of_ble_eq_true rfl)⟩) ⟨PM_blind, va_recv hK hP (ci := 4) (q0 := 0) rfl rfl, PM_give hP hK hD hE hS hFc⟩ rfl rfl hl.1 rfl (lv_room (Nat.le_of_ble_eq_true rfl)) dM0_chain_3 ⟨by decide, by decide⟩) hS (fun q _ h => hFc q h) hFc (fun r_3 u t H1 locs ht hvm hw hB hz1 hk1 hS => ?_)
  obtain ⟨rfl, rfl⟩ := hw
  obtain ⟨hP, hD⟩ := PM_take ht hFc hB
  generalize H1 = H at hP hS ⊢
  have hP : va_P (dC, dI) vwCl (wM c0 a (th, n, wk, sd, bt, lt, lo, ct, rk, ad, sp, gd, rf, sm, js, sn, wl, vl, bg, cm)) H := hP
  have hD : va_D A (wM c0 a (th, n, wk, sd, bt, lt, lo, ct, rk, ad, sp, gd, rf, sm, js, sn, wl, vl, bg, cm)) := hD
  refine lv_if_eq (tgt := 39) hx hb dM0_chain_6 (by decide) (fun c_6 => ?_) (fun c_6 => ?_)
  · skip
    refine lv_iconst (v := 1) hx hb dM0_chain_39 (by decide) ?_
    refine va_put (D := (dC, dI)) (ci := 4) (v := .int 1) (ty := .int) (C := RM0) (T := TM0) (N := 20) hx hb hts inM0 tyM0 tyM0_ok nmM0 hown hK hP hD hS 0 rfl rfl 0 (by decide) (hE.t m_427 rfl) (fun _ h9 => h9) rfl (by decide +kernel) rfl rfl (Nat.le_of_ble_eq_true rfl) dM0_chain_40 (fun H locs hP hD hS => ?_)
    have hP : va_P (dC, dI) vwCl (wM c0 a (1, n, wk, sd, bt, lt, lo, ct, rk, ad, sp, gd, rf, sm, js, sn, wl, vl, bg, cm)) H := hP
    have hD : va_D A (wM c0 a (1, n, wk, sd, bt, lt, lo, ct, rk, ad, sp, gd, rf, sm, js, sn, wl, vl, bg, cm)) := hD
    refine lv_aload_n hx hb dM0_chain_43 rfl (lv_at hl 0 rfl) ?_
    refine va_get (D := (dC, dI)) (ci := 4) (v := .int 1) (C := RM0) (T := TM0) (N := 20) hx hb hts inM0 hown hK hP 0 rfl rfl 0 (by decide) (hE.t m_427 rfl) (fun _ h9 => h9) rfl dM0_chain_44 ?_
    refine lv_if_le (tgt := 54) hx hb dM0_chain_47 (by decide) (fun c_47 => ?_) (fun c_47 => ?_)
    · skip
      exact absurd c_47 (by decide)
    · skip
      refine lv_lconst (v := 0) hx hb dM0_chain_50 (by decide) ?_
      refine lv_goto (tgt := 60) hx hb dM0_chain_51 (by decide) ?_
      exact W.lret (v := 0) hx hb hr (fun t ht hW => ⟨⟨0, (1, n, wk, sd, bt, lt, lo, ct, rk, ad, sp, gd, rf, sm, js, sn, wl, vl, bg, cm), rfl, (by simp only [m_chain, eq_true c_6, c_47, ↓reduceIte]), by rw [ht]; exact hP, va_K.moved hW.alike hK, hD⟩, hS.F ht⟩) hS.2.2 dM0_chain_60
  · skip
    have hk : vp_in k 40 := in_le (isS_in c_6 (by omega)) hn
    refine lv_iload_n hx hb dM0_chain_9 rfl (lv_at hl 2 rfl) ?_
    refine lv_iconst (v := 0) hx hb dM0_chain_10 (by decide) ?_
    refine lv_aload_n hx hb dM0_chain_11 rfl (lv_at hl 0 rfl) ?_
    refine va_get (D := (dC, dI)) (ci := 4) (v := .ref (a 1)) (C := RM0) (T := TM0) (N := 20) hx hb hts inM0 hown hK hP 0 rfl rfl 2 (by decide) (hE.t m_429 rfl) (fun _ h9 => h9) rfl dM0_chain_12 ?_
    refine lv_aload_n hx hb dM0_chain_15 rfl (lv_at hl 0 rfl) ?_
    refine lv_iload_n hx hb dM0_chain_16 rfl (lv_at hl 1 rfl) ?_
    have hFc := fre hD hS hA
    refine va_calli (va_runV (As := [.int k]) (rest := [.ref (a 1), .int 0, .int w, .ref (a 0)]) ⟨hx, hb, hml, hown, hts⟩ (c_M0_isShare l dC dI c0 a _ th n wk sd bt lt lo ct rk ad sp gd rf sm js sn wl vl bg cm k) (cwV 1 hts gM0_chain_M0_isShare rfl rfl rfl (by decide +kernel) ⟨(Nat.le_of_ble_eq_true rfl), (Nat.le_of_ble_eq_true rfl)⟩) ⟨PM_blind, va_recv hK hP (ci := 4) (q0 := 0) rfl rfl, PM_give hP hK hD hE hS hFc⟩ rfl rfl hl.1 rfl (lv_room (Nat.le_of_ble_eq_true rfl)) dM0_chain_17 ⟨by decide, by decide⟩) hS (fun q _ h => hFc q h) hFc (fun r_17 u t H1 locs ht hvm hw hB hz1 hk1 hS => ?_)
    obtain ⟨rfl, rfl⟩ := hw
    obtain ⟨hP, hD⟩ := PM_take ht hFc hB
    generalize H1 = H at hP hS ⊢
    have hP : va_P (dC, dI) vwCl (wM c0 a (th, n, wk, sd, bt, lt, lo, ct, rk, ad, sp, gd, rf, sm, js, sn, wl, vl, bg, cm)) H := hP
    have hD : va_D A (wM c0 a (th, n, wk, sd, bt, lt, lo, ct, rk, ad, sp, gd, rf, sm, js, sn, wl, vl, bg, cm)) := hD
    refine lv_if_eq (tgt := 27) hx hb dM0_chain_20 (by decide) (fun c_20 => ?_) (fun c_20 => ?_)
    · skip
      exact absurd c_20 c_6
    · skip
      refine lv_iload_n hx hb dM0_chain_23 rfl (lv_at hl 1 rfl) ?_
      refine lv_goto (tgt := 28) hx hb dM0_chain_24 (by decide) ?_
      refine va_iald hx hb hK hP 1 0 rfl rfl hk dM0_chain_28 ?_
      have hFc := fre hD hS hA
      refine va_calli (va_runS (As := [.int w, .int 0, .int (wk k.toNatClampNeg)]) (rest := [.ref (a 0)]) ⟨hx, hb, hml, hown, hts⟩ (c_M0_in l dC dI c0 a _ th n wk sd bt lt lo ct rk ad sp gd rf sm js sn wl vl bg cm w 0 (wk k.toNatClampNeg)) (va_cwS 3 hts gM0_chain_M0_in rfl rfl rfl (by decide +kernel) ⟨(Nat.le_of_ble_eq_true rfl), (Nat.le_of_ble_eq_true rfl)⟩) ⟨PM_blind, PM_give hP hK hD hE hS hFc⟩ rfl rfl hl.1 rfl (lv_room (Nat.le_of_ble_eq_true rfl)) dM0_chain_29 ⟨by decide, by decide⟩) hS (fun q _ h => hFc q h) hFc (fun r_29 u t H1 locs ht hvm hw hB hz1 hk1 hS => ?_)
      obtain ⟨rfl, rfl⟩ := hw
      obtain ⟨hP, hD⟩ := PM_take ht hFc hB
      generalize H1 = H at hP hS ⊢
      have hP : va_P (dC, dI) vwCl (wM c0 a (th, n, wk, sd, bt, lt, lo, ct, rk, ad, sp, gd, rf, sm, js, sn, wl, vl, bg, cm)) H := hP
      have hD : va_D A (wM c0 a (th, n, wk, sd, bt, lt, lo, ct, rk, ad, sp, gd, rf, sm, js, sn, wl, vl, bg, cm)) := hD
      refine lv_if_eq (tgt := 39) hx hb dM0_chain_32 (by decide) (fun c_32 => ?_) (fun c_32 => ?_)
      · skip
        refine lv_iconst (v := 1) hx hb dM0_chain_39 (by decide) ?_
        refine va_put (D := (dC, dI)) (ci := 4) (v := .int 1) (ty := .int) (C := RM0) (T := TM0) (N := 20) hx hb hts inM0 tyM0 tyM0_ok nmM0 hown hK hP hD hS 0 rfl rfl 0 (by decide) (hE.t m_427 rfl) (fun _ h9 => h9) rfl (by decide +kernel) rfl rfl (Nat.le_of_ble_eq_true rfl) dM0_chain_40 (fun H locs hP hD hS => ?_)
        have hP : va_P (dC, dI) vwCl (wM c0 a (1, n, wk, sd, bt, lt, lo, ct, rk, ad, sp, gd, rf, sm, js, sn, wl, vl, bg, cm)) H := hP
        have hD : va_D A (wM c0 a (1, n, wk, sd, bt, lt, lo, ct, rk, ad, sp, gd, rf, sm, js, sn, wl, vl, bg, cm)) := hD
        refine lv_aload_n hx hb dM0_chain_43 rfl (lv_at hl 0 rfl) ?_
        refine va_get (D := (dC, dI)) (ci := 4) (v := .int 1) (C := RM0) (T := TM0) (N := 20) hx hb hts inM0 hown hK hP 0 rfl rfl 0 (by decide) (hE.t m_427 rfl) (fun _ h9 => h9) rfl dM0_chain_44 ?_
        refine lv_if_le (tgt := 54) hx hb dM0_chain_47 (by decide) (fun c_47 => ?_) (fun c_47 => ?_)
        · skip
          exact absurd c_47 (by decide)
        · skip
          refine lv_lconst (v := 0) hx hb dM0_chain_50 (by decide) ?_
          refine lv_goto (tgt := 60) hx hb dM0_chain_51 (by decide) ?_
          exact W.lret (v := 0) hx hb hr (fun t ht hW => ⟨⟨0, (1, n, wk, sd, bt, lt, lo, ct, rk, ad, sp, gd, rf, sm, js, sn, wl, vl, bg, cm), rfl, (by simp only [m_chain, c_6, c_20, eq_true c_32, c_47, ↓reduceIte]), by rw [ht]; exact hP, va_K.moved hW.alike hK, hD⟩, hS.F ht⟩) hS.2.2 dM0_chain_60
      · skip
        refine lv_iconst (v := 0) hx hb dM0_chain_35 (by decide) ?_
        refine lv_goto (tgt := 40) hx hb dM0_chain_36 (by decide) ?_
        refine va_put (D := (dC, dI)) (ci := 4) (v := .int 0) (ty := .int) (C := RM0) (T := TM0) (N := 20) hx hb hts inM0 tyM0 tyM0_ok nmM0 hown hK hP hD hS 0 rfl rfl 0 (by decide) (hE.t m_427 rfl) (fun _ h9 => h9) rfl (by decide +kernel) rfl rfl (Nat.le_of_ble_eq_true rfl) dM0_chain_40 (fun H locs hP hD hS => ?_)
        have hP : va_P (dC, dI) vwCl (wM c0 a (0, n, wk, sd, bt, lt, lo, ct, rk, ad, sp, gd, rf, sm, js, sn, wl, vl, bg, cm)) H := hP
        have hD : va_D A (wM c0 a (0, n, wk, sd, bt, lt, lo, ct, rk, ad, sp, gd, rf, sm, js, sn, wl, vl, bg, cm)) := hD
        refine lv_aload_n hx hb dM0_chain_43 rfl (lv_at hl 0 rfl) ?_
        refine va_get (D := (dC, dI)) (ci := 4) (v := .int 0) (C := RM0) (T := TM0) (N := 20) hx hb hts inM0 hown hK hP 0 rfl rfl 0 (by decide) (hE.t m_427 rfl) (fun _ h9 => h9) rfl dM0_chain_44 ?_
        refine lv_if_le (tgt := 54) hx hb dM0_chain_47 (by decide) (fun c_47 => ?_) (fun c_47 => ?_)
        · skip
          refine lv_aload_n hx hb dM0_chain_54 rfl (lv_at hl 0 rfl) ?_
          refine lv_iload_n hx hb dM0_chain_55 rfl (lv_at hl 1 rfl) ?_
          refine lv_iload_n hx hb dM0_chain_56 rfl (lv_at hl 2 rfl) ?_
          have hFc := fre hD hS hA
          refine va_calll (va_runV (As := [.int k, .int w]) (rest := []) ⟨hx, hb, hml, hown, hts⟩ (c_M0_after l dC dI c0 a _ 0 n wk sd bt lt lo ct rk ad sp gd rf sm js sn wl vl bg cm k w hk) (cwV 2 hts gM0_chain_M0_after rfl rfl rfl (by decide +kernel) ⟨(Nat.le_of_ble_eq_true rfl), (Nat.le_of_ble_eq_true rfl)⟩) ⟨PM_blind, va_recv hK hP (ci := 4) (q0 := 0) rfl rfl, PM_give hP hK hD hE hS hFc⟩ rfl rfl hl.1 rfl (lv_room (Nat.le_of_ble_eq_true rfl)) dM0_chain_57 ⟨by decide, by decide⟩) hS (fun q _ h => hFc q h) hFc (fun r_57 u t H1 locs ht hvm hw hB hz1 hk1 hS => ?_)
          obtain ⟨rfl, rfl⟩ := hw
          obtain ⟨hP, hD⟩ := PM_take ht hFc hB
          generalize H1 = H at hP hS ⊢
          have hP : va_P (dC, dI) vwCl (wM c0 a (0, n, wk, sd, bt, lt, lo, ct, rk, ad, sp, gd, rf, sm, js, sn, wl, vl, bg, cm)) H := hP
          have hD : va_D A (wM c0 a (0, n, wk, sd, bt, lt, lo, ct, rk, ad, sp, gd, rf, sm, js, sn, wl, vl, bg, cm)) := hD
          exact W.lret (v := chx (sd k.toNatClampNeg) k w.toNatClampNeg) hx hb hr (fun t ht hW => ⟨⟨chx (sd k.toNatClampNeg) k w.toNatClampNeg, (0, n, wk, sd, bt, lt, lo, ct, rk, ad, sp, gd, rf, sm, js, sn, wl, vl, bg, cm), rfl, (by simp only [m_chain, c_6, c_20, c_32, c_47, ↓reduceIte]), by rw [ht]; exact hP, va_K.moved hW.alike hK, hD⟩, hS.F ht⟩) hS.2.2 dM0_chain_60
        · skip
          exact absurd (by decide) c_47
set_option maxHeartbeats 4000000 in
set_option maxRecDepth 100000 in
/-- came -/
theorem c_M0_came (l : Launch) (dC : Nat → ClassId) (dI : Nat → Nat → Nat) (c0 : ClassId) (a : Nat → Nat) (sz : Nat) (th : Int32) (n : Nat) (wk sd bt lt lo : Nat → Int32) (ct : Nat) (rk ad : Nat → Int32) (sp gd rf : Int32) (sm : Int64) (js sn wl : Int32) (vl bg cm : Nat → Int32) (k : Int32) (hct : ct ≤ 24) : Met l yM0_came wsM0_came ({ frames := 1, cells := 0, slots := 0, locals := 25 }) (va_Pc [.ref (a 0), .int k] (PM dC dI c0 a (th, n, wk, sd, bt, lt, lo, ct, rk, ad, sp, gd, rf, sm, js, sn, wl, vl, bg, cm) sz)) (va_Qi (fun (r : Int32) (u : mS) => m_came (th, n, wk, sd, bt, lt, lo, ct, rk, ad, sp, gd, rf, sm, js, sn, wl, vl, bg, cm) k = (r, u)) (BM dC dI c0 a (va_A (wM c0 a (th, n, wk, sd, bt, lt, lo, ct, rk, ad, sp, gd, rf, sm, js, sn, wl, vl, bg, cm)) sz)) (va_A (wM c0 a (th, n, wk, sd, bt, lt, lo, ct, rk, ad, sp, gd, rf, sm, js, sn, wl, vl, bg, cm)) sz)) 0 0 (va_A (wM c0 a (th, n, wk, sd, bt, lt, lo, ct, rk, ad, sp, gd, rf, sm, js, sn, wl, vl, bg, cm)) sz) := by
  refine Met.ofW (cc := cM0_came) (maxL := 2) (ret := (some .int)) (by decide) rfl ?_
  intro p e s m args below meth c s₁ B hml hv
  obtain ⟨rfl, hsz, hP, hK, hD0, hE⟩ := hv
  have hx := B.exec
  have hb := B.bytes
  have hr := B.returns
  have hown : s.vm.findClass RM0 = some m.cls := findClass_of_methodNamed B.named
  have hlocks := B.notSynchronized
  subst hsz
  have hD := hD0.self (sz := s.heap.size)
  generalize hAe : va_A (wM c0 a (th, n, wk, sd, bt, lt, lo, ct, rk, ad, sp, gd, rf, sm, js, sn, wl, vl, bg, cm)) s.heap.size = A at hD hE ⊢
  have hts := hE.ts (args := ([.ref (a 0), .int k] : List Value).toArray)
  have hA : ∀ q : Nat, s.heap.size ≤ q → A q := fun q h => by rw [← hAe]; exact Or.inr h
  have hS : va_S A s.heap s.heap [] := va_S.rf
  have hP : va_P (dC, dI) vwCl (wM c0 a (th, n, wk, sd, bt, lt, lo, ct, rk, ad, sp, gd, rf, sm, js, sn, wl, vl, bg, cm)) s.heap := hP
  have hl := lv_entry ([.ref (a 0), .int k]) (n := 2) (Nat.le_of_ble_eq_true rfl)
  rw [lg_entry_eq]
  generalize (lg_sl ([.ref (a 0), .int k]) ++ List.replicate (2 - (lg_sl ([.ref (a 0), .int k])).length) Slot.unset).toArray = ls at hl ⊢
  have hl : lv_has ls 2 [(0, .ref (a 0)), (1, .int k)] := hl
  refine lv_aload_n hx hb dM0_came_0 rfl (lv_at hl 0 rfl) ?_
  refine lv_iload_n hx hb dM0_came_1 rfl (lv_at hl 1 rfl) ?_
  refine lv_iconst (v := 0) hx hb dM0_came_2 (by decide) ?_
  refine lv_aload_n hx hb dM0_came_3 rfl (lv_at hl 0 rfl) ?_
  refine va_get (D := (dC, dI)) (ci := 4) (v := .int (nI ct)) (C := RM0) (T := TM0) (N := 20) hx hb hts inM0 hown hK hP 0 rfl rfl 7 (by decide) (hE.t m_434 rfl) (fun _ h9 => h9) rfl dM0_came_4 ?_
  refine lv_iconst (v := 1) hx hb dM0_came_7 (by decide) ?_
  refine lv_isub hx hb dM0_came_8 ?_
  have hFc := fre hD hS hA
  refine va_calli (va_runS (As := [.int k, .int 0, .int ((nI ct) - 1)]) (rest := [.ref (a 0)]) ⟨hx, hb, hml, hown, hts⟩ (c_M0_in l dC dI c0 a _ th n wk sd bt lt lo ct rk ad sp gd rf sm js sn wl vl bg cm k 0 ((nI ct) - 1)) (va_cwS 3 hts gM0_came_M0_in rfl rfl rfl (by decide +kernel) ⟨(Nat.le_of_ble_eq_true rfl), (Nat.le_of_ble_eq_true rfl)⟩) ⟨PM_blind, PM_give hP hK hD hE hS hFc⟩ rfl rfl hl.1 rfl (lv_room (Nat.le_of_ble_eq_true rfl)) dM0_came_9 ⟨by decide, by decide⟩) hS (fun q _ h => hFc q h) hFc (fun r_9 u t H1 locs ht hvm hw hB hz1 hk1 hS => ?_)
  obtain ⟨rfl, rfl⟩ := hw
  obtain ⟨hP, hD⟩ := PM_take ht hFc hB
  generalize H1 = H at hP hS ⊢
  have hP : va_P (dC, dI) vwCl (wM c0 a (th, n, wk, sd, bt, lt, lo, ct, rk, ad, sp, gd, rf, sm, js, sn, wl, vl, bg, cm)) H := hP
  have hD : va_D A (wM c0 a (th, n, wk, sd, bt, lt, lo, ct, rk, ad, sp, gd, rf, sm, js, sn, wl, vl, bg, cm)) := hD
  have hFc := fre hD hS hA
  refine va_calli (va_runV (As := [.int (inn k 0 ((nI ct) - 1))]) (rest := []) ⟨hx, hb, hml, hown, hts⟩ (c_M0_isRefused l dC dI c0 a _ th n wk sd bt lt lo ct rk ad sp gd rf sm js sn wl vl bg cm (inn k 0 ((nI ct) - 1))) (cwV 1 hts gM0_came_M0_isRefused rfl rfl rfl (by decide +kernel) ⟨(Nat.le_of_ble_eq_true rfl), (Nat.le_of_ble_eq_true rfl)⟩) ⟨PM_blind, va_recv hK hP (ci := 4) (q0 := 0) rfl rfl, PM_give hP hK hD hE hS hFc⟩ rfl rfl hl.1 rfl (lv_room (Nat.le_of_ble_eq_true rfl)) dM0_came_12 ⟨by decide, by decide⟩) hS (fun q _ h => hFc q h) hFc (fun r_12 u t H1 locs ht hvm hw hB hz1 hk1 hS => ?_)
  obtain ⟨rfl, rfl⟩ := hw
  obtain ⟨hP, hD⟩ := PM_take ht hFc hB
  generalize H1 = H at hP hS ⊢
  have hP : va_P (dC, dI) vwCl (wM c0 a (rft (inn k 0 ((nI ct) - 1)) gd, n, wk, sd, bt, lt, lo, ct, rk, ad, sp, gd, rf, sm, js, sn, wl, vl, bg, cm)) H := hP
  have hD : va_D A (wM c0 a (rft (inn k 0 ((nI ct) - 1)) gd, n, wk, sd, bt, lt, lo, ct, rk, ad, sp, gd, rf, sm, js, sn, wl, vl, bg, cm)) := hD
  refine lv_if_eq (tgt := 22) hx hb dM0_came_15 (by decide) (fun c_15 => ?_) (fun c_15 => ?_)
  · skip
    have hk : vp_in k 24 := in_le (rfi_in c_15 (by omega)) hct
    refine lv_aload_n hx hb dM0_came_22 rfl (lv_at hl 0 rfl) ?_
    refine va_get (D := (dC, dI)) (ci := 4) (v := .ref (a 10)) (C := RM0) (T := TM0) (N := 20) hx hb hts inM0 hown hK hP 0 rfl rfl 19 (by decide) (hE.t m_446 rfl) (fun _ h9 => h9) rfl dM0_came_23 ?_
    refine lv_iload_n hx hb dM0_came_26 rfl (lv_at hl 1 rfl) ?_
    refine va_iald hx hb hK hP 10 0 rfl rfl hk dM0_came_27 ?_
    exact W.iret (v := cm k.toNatClampNeg) hx hb hr (fun t ht hW => ⟨⟨cm k.toNatClampNeg, (rft (inn k 0 ((nI ct) - 1)) gd, n, wk, sd, bt, lt, lo, ct, rk, ad, sp, gd, rf, sm, js, sn, wl, vl, bg, cm), rfl, (by simp only [m_came, eq_true c_15, ↓reduceIte]), by rw [ht]; exact hP, va_K.moved hW.alike hK, hD⟩, hS.F ht⟩) hS.2.2 dM0_came_28
  · skip
    refine lv_iconst (v := 0) hx hb dM0_came_18 (by decide) ?_
    refine lv_goto (tgt := 28) hx hb dM0_came_19 (by decide) ?_
    exact W.iret (v := 0) hx hb hr (fun t ht hW => ⟨⟨0, (rft (inn k 0 ((nI ct) - 1)) gd, n, wk, sd, bt, lt, lo, ct, rk, ad, sp, gd, rf, sm, js, sn, wl, vl, bg, cm), rfl, (by simp only [m_came, c_15, ↓reduceIte]), by rw [ht]; exact hP, va_K.moved hW.alike hK, hD⟩, hS.F ht⟩) hS.2.2 dM0_came_28
set_option maxHeartbeats 4000000 in
set_option maxRecDepth 100000 in
/-- begun -/
theorem c_M0_begun (l : Launch) (dC : Nat → ClassId) (dI : Nat → Nat → Nat) (c0 : ClassId) (a : Nat → Nat) (sz : Nat) (th : Int32) (n : Nat) (wk sd bt lt lo : Nat → Int32) (ct : Nat) (rk ad : Nat → Int32) (sp gd rf : Int32) (sm : Int64) (js sn wl : Int32) (vl bg cm : Nat → Int32) (k : Int32) (hn : n ≤ 40) : Met l yM0_begun wsM0_begun ({ frames := 1, cells := 0, slots := 0, locals := 25 }) (va_Pc [.ref (a 0), .int k] (PM dC dI c0 a (th, n, wk, sd, bt, lt, lo, ct, rk, ad, sp, gd, rf, sm, js, sn, wl, vl, bg, cm) sz)) (va_Qi (fun (r : Int32) (u : mS) => m_begun (th, n, wk, sd, bt, lt, lo, ct, rk, ad, sp, gd, rf, sm, js, sn, wl, vl, bg, cm) k = (r, u)) (BM dC dI c0 a (va_A (wM c0 a (th, n, wk, sd, bt, lt, lo, ct, rk, ad, sp, gd, rf, sm, js, sn, wl, vl, bg, cm)) sz)) (va_A (wM c0 a (th, n, wk, sd, bt, lt, lo, ct, rk, ad, sp, gd, rf, sm, js, sn, wl, vl, bg, cm)) sz)) 0 0 (va_A (wM c0 a (th, n, wk, sd, bt, lt, lo, ct, rk, ad, sp, gd, rf, sm, js, sn, wl, vl, bg, cm)) sz) := by
  refine Met.ofW (cc := cM0_begun) (maxL := 2) (ret := (some .int)) (by decide) rfl ?_
  intro p e s m args below meth c s₁ B hml hv
  obtain ⟨rfl, hsz, hP, hK, hD0, hE⟩ := hv
  have hx := B.exec
  have hb := B.bytes
  have hr := B.returns
  have hown : s.vm.findClass RM0 = some m.cls := findClass_of_methodNamed B.named
  have hlocks := B.notSynchronized
  subst hsz
  have hD := hD0.self (sz := s.heap.size)
  generalize hAe : va_A (wM c0 a (th, n, wk, sd, bt, lt, lo, ct, rk, ad, sp, gd, rf, sm, js, sn, wl, vl, bg, cm)) s.heap.size = A at hD hE ⊢
  have hts := hE.ts (args := ([.ref (a 0), .int k] : List Value).toArray)
  have hA : ∀ q : Nat, s.heap.size ≤ q → A q := fun q h => by rw [← hAe]; exact Or.inr h
  have hS : va_S A s.heap s.heap [] := va_S.rf
  have hP : va_P (dC, dI) vwCl (wM c0 a (th, n, wk, sd, bt, lt, lo, ct, rk, ad, sp, gd, rf, sm, js, sn, wl, vl, bg, cm)) s.heap := hP
  have hl := lv_entry ([.ref (a 0), .int k]) (n := 2) (Nat.le_of_ble_eq_true rfl)
  rw [lg_entry_eq]
  generalize (lg_sl ([.ref (a 0), .int k]) ++ List.replicate (2 - (lg_sl ([.ref (a 0), .int k])).length) Slot.unset).toArray = ls at hl ⊢
  have hl : lv_has ls 2 [(0, .ref (a 0)), (1, .int k)] := hl
  refine lv_aload_n hx hb dM0_begun_0 rfl (lv_at hl 0 rfl) ?_
  refine lv_aload_n hx hb dM0_begun_1 rfl (lv_at hl 0 rfl) ?_
  refine lv_iload_n hx hb dM0_begun_2 rfl (lv_at hl 1 rfl) ?_
  have hFc := fre hD hS hA
  refine va_calli (va_runV (As := [.int k]) (rest := [.ref (a 0)]) ⟨hx, hb, hml, hown, hts⟩ (c_M0_isShare l dC dI c0 a _ th n wk sd bt lt lo ct rk ad sp gd rf sm js sn wl vl bg cm k) (cwV 1 hts gM0_begun_M0_isShare rfl rfl rfl (by decide +kernel) ⟨(Nat.le_of_ble_eq_true rfl), (Nat.le_of_ble_eq_true rfl)⟩) ⟨PM_blind, va_recv hK hP (ci := 4) (q0 := 0) rfl rfl, PM_give hP hK hD hE hS hFc⟩ rfl rfl hl.1 rfl (lv_room (Nat.le_of_ble_eq_true rfl)) dM0_begun_3 ⟨by decide, by decide⟩) hS (fun q _ h => hFc q h) hFc (fun r_3 u t H1 locs ht hvm hw hB hz1 hk1 hS => ?_)
  obtain ⟨rfl, rfl⟩ := hw
  obtain ⟨hP, hD⟩ := PM_take ht hFc hB
  generalize H1 = H at hP hS ⊢
  have hP : va_P (dC, dI) vwCl (wM c0 a (th, n, wk, sd, bt, lt, lo, ct, rk, ad, sp, gd, rf, sm, js, sn, wl, vl, bg, cm)) H := hP
  have hD : va_D A (wM c0 a (th, n, wk, sd, bt, lt, lo, ct, rk, ad, sp, gd, rf, sm, js, sn, wl, vl, bg, cm)) := hD
  have hFc := fre hD hS hA
  refine va_calli (va_runV (As := [.int (isS n k)]) (rest := []) ⟨hx, hb, hml, hown, hts⟩ (c_M0_isRefused l dC dI c0 a _ th n wk sd bt lt lo ct rk ad sp gd rf sm js sn wl vl bg cm (isS n k)) (cwV 1 hts gM0_begun_M0_isRefused rfl rfl rfl (by decide +kernel) ⟨(Nat.le_of_ble_eq_true rfl), (Nat.le_of_ble_eq_true rfl)⟩) ⟨PM_blind, va_recv hK hP (ci := 4) (q0 := 0) rfl rfl, PM_give hP hK hD hE hS hFc⟩ rfl rfl hl.1 rfl (lv_room (Nat.le_of_ble_eq_true rfl)) dM0_begun_6 ⟨by decide, by decide⟩) hS (fun q _ h => hFc q h) hFc (fun r_6 u t H1 locs ht hvm hw hB hz1 hk1 hS => ?_)
  obtain ⟨rfl, rfl⟩ := hw
  obtain ⟨hP, hD⟩ := PM_take ht hFc hB
  generalize H1 = H at hP hS ⊢
  have hP : va_P (dC, dI) vwCl (wM c0 a (rft (isS n k) gd, n, wk, sd, bt, lt, lo, ct, rk, ad, sp, gd, rf, sm, js, sn, wl, vl, bg, cm)) H := hP
  have hD : va_D A (wM c0 a (rft (isS n k) gd, n, wk, sd, bt, lt, lo, ct, rk, ad, sp, gd, rf, sm, js, sn, wl, vl, bg, cm)) := hD
  refine lv_if_eq (tgt := 16) hx hb dM0_begun_9 (by decide) (fun c_9 => ?_) (fun c_9 => ?_)
  · skip
    have hk : vp_in k 40 := in_le (rfr_in c_9 (by omega)) hn
    refine lv_aload_n hx hb dM0_begun_16 rfl (lv_at hl 0 rfl) ?_
    refine va_get (D := (dC, dI)) (ci := 4) (v := .ref (a 9)) (C := RM0) (T := TM0) (N := 20) hx hb hts inM0 hown hK hP 0 rfl rfl 18 (by decide) (hE.t m_445 rfl) (fun _ h9 => h9) rfl dM0_begun_17 ?_
    refine lv_iload_n hx hb dM0_begun_20 rfl (lv_at hl 1 rfl) ?_
    refine va_iald hx hb hK hP 9 0 rfl rfl hk dM0_begun_21 ?_
    exact W.iret (v := bg k.toNatClampNeg) hx hb hr (fun t ht hW => ⟨⟨bg k.toNatClampNeg, (rft (isS n k) gd, n, wk, sd, bt, lt, lo, ct, rk, ad, sp, gd, rf, sm, js, sn, wl, vl, bg, cm), rfl, (by simp only [m_begun, eq_true c_9, ↓reduceIte]), by rw [ht]; exact hP, va_K.moved hW.alike hK, hD⟩, hS.F ht⟩) hS.2.2 dM0_begun_22
  · skip
    refine lv_iconst (v := 0) hx hb dM0_begun_12 (by decide) ?_
    refine lv_goto (tgt := 22) hx hb dM0_begun_13 (by decide) ?_
    exact W.iret (v := 0) hx hb hr (fun t ht hW => ⟨⟨0, (rft (isS n k) gd, n, wk, sd, bt, lt, lo, ct, rk, ad, sp, gd, rf, sm, js, sn, wl, vl, bg, cm), rfl, (by simp only [m_begun, c_9, ↓reduceIte]), by rw [ht]; exact hP, va_K.moved hW.alike hK, hD⟩, hS.F ht⟩) hS.2.2 dM0_begun_22
set_option maxHeartbeats 4000000 in
set_option maxRecDepth 100000 in
/-- steps -/
theorem c_M0_steps (l : Launch) (dC : Nat → ClassId) (dI : Nat → Nat → Nat) (c0 : ClassId) (a : Nat → Nat) (sz : Nat) (th : Int32) (n : Nat) (wk sd bt lt lo : Nat → Int32) (ct : Nat) (rk ad : Nat → Int32) (sp gd rf : Int32) (sm : Int64) (js sn wl : Int32) (vl bg cm : Nat → Int32) (k : Int32) : Met l yM0_steps wsM0_steps ({ frames := 1, cells := 0, slots := 0, locals := 25 }) (va_Pc [.ref (a 0), .int k] (PM dC dI c0 a (th, n, wk, sd, bt, lt, lo, ct, rk, ad, sp, gd, rf, sm, js, sn, wl, vl, bg, cm) sz)) (va_Qi (fun (r : Int32) (u : mS) => m_steps (th, n, wk, sd, bt, lt, lo, ct, rk, ad, sp, gd, rf, sm, js, sn, wl, vl, bg, cm) k = (r, u)) (BM dC dI c0 a (va_A (wM c0 a (th, n, wk, sd, bt, lt, lo, ct, rk, ad, sp, gd, rf, sm, js, sn, wl, vl, bg, cm)) sz)) (va_A (wM c0 a (th, n, wk, sd, bt, lt, lo, ct, rk, ad, sp, gd, rf, sm, js, sn, wl, vl, bg, cm)) sz)) 0 0 (va_A (wM c0 a (th, n, wk, sd, bt, lt, lo, ct, rk, ad, sp, gd, rf, sm, js, sn, wl, vl, bg, cm)) sz) := by
  refine Met.ofW (cc := cM0_steps) (maxL := 2) (ret := (some .int)) (by decide) rfl ?_
  intro p e s m args below meth c s₁ B hml hv
  obtain ⟨rfl, hsz, hP, hK, hD0, hE⟩ := hv
  have hx := B.exec
  have hb := B.bytes
  have hr := B.returns
  have hown : s.vm.findClass RM0 = some m.cls := findClass_of_methodNamed B.named
  have hlocks := B.notSynchronized
  subst hsz
  have hD := hD0.self (sz := s.heap.size)
  generalize hAe : va_A (wM c0 a (th, n, wk, sd, bt, lt, lo, ct, rk, ad, sp, gd, rf, sm, js, sn, wl, vl, bg, cm)) s.heap.size = A at hD hE ⊢
  have hts := hE.ts (args := ([.ref (a 0), .int k] : List Value).toArray)
  have hA : ∀ q : Nat, s.heap.size ≤ q → A q := fun q h => by rw [← hAe]; exact Or.inr h
  have hS : va_S A s.heap s.heap [] := va_S.rf
  have hP : va_P (dC, dI) vwCl (wM c0 a (th, n, wk, sd, bt, lt, lo, ct, rk, ad, sp, gd, rf, sm, js, sn, wl, vl, bg, cm)) s.heap := hP
  have hl := lv_entry ([.ref (a 0), .int k]) (n := 2) (Nat.le_of_ble_eq_true rfl)
  rw [lg_entry_eq]
  generalize (lg_sl ([.ref (a 0), .int k]) ++ List.replicate (2 - (lg_sl ([.ref (a 0), .int k])).length) Slot.unset).toArray = ls at hl ⊢
  have hl : lv_has ls 2 [(0, .ref (a 0)), (1, .int k)] := hl
  refine lv_aload_n hx hb dM0_steps_0 rfl (lv_at hl 0 rfl) ?_
  refine lv_iload_n hx hb dM0_steps_1 rfl (lv_at hl 1 rfl) ?_
  refine lv_iconst (v := 0) hx hb dM0_steps_2 (by decide) ?_
  refine lv_iconst (v := 1) hx hb dM0_steps_3 (by decide) ?_
  have hFc := fre hD hS hA
  refine va_calli (va_runS (As := [.int k, .int 0, .int 1]) (rest := [.ref (a 0)]) ⟨hx, hb, hml, hown, hts⟩ (c_M0_in l dC dI c0 a _ th n wk sd bt lt lo ct rk ad sp gd rf sm js sn wl vl bg cm k 0 1) (va_cwS 3 hts gM0_steps_M0_in rfl rfl rfl (by decide +kernel) ⟨(Nat.le_of_ble_eq_true rfl), (Nat.le_of_ble_eq_true rfl)⟩) ⟨PM_blind, PM_give hP hK hD hE hS hFc⟩ rfl rfl hl.1 rfl (lv_room (Nat.le_of_ble_eq_true rfl)) dM0_steps_4 ⟨by decide, by decide⟩) hS (fun q _ h => hFc q h) hFc (fun r_4 u t H1 locs ht hvm hw hB hz1 hk1 hS => ?_)
  obtain ⟨rfl, rfl⟩ := hw
  obtain ⟨hP, hD⟩ := PM_take ht hFc hB
  generalize H1 = H at hP hS ⊢
  have hP : va_P (dC, dI) vwCl (wM c0 a (th, n, wk, sd, bt, lt, lo, ct, rk, ad, sp, gd, rf, sm, js, sn, wl, vl, bg, cm)) H := hP
  have hD : va_D A (wM c0 a (th, n, wk, sd, bt, lt, lo, ct, rk, ad, sp, gd, rf, sm, js, sn, wl, vl, bg, cm)) := hD
  have hFc := fre hD hS hA
  refine va_calli (va_runV (As := [.int (inn k 0 1)]) (rest := []) ⟨hx, hb, hml, hown, hts⟩ (c_M0_isRefused l dC dI c0 a _ th n wk sd bt lt lo ct rk ad sp gd rf sm js sn wl vl bg cm (inn k 0 1)) (cwV 1 hts gM0_steps_M0_isRefused rfl rfl rfl (by decide +kernel) ⟨(Nat.le_of_ble_eq_true rfl), (Nat.le_of_ble_eq_true rfl)⟩) ⟨PM_blind, va_recv hK hP (ci := 4) (q0 := 0) rfl rfl, PM_give hP hK hD hE hS hFc⟩ rfl rfl hl.1 rfl (lv_room (Nat.le_of_ble_eq_true rfl)) dM0_steps_7 ⟨by decide, by decide⟩) hS (fun q _ h => hFc q h) hFc (fun r_7 u t H1 locs ht hvm hw hB hz1 hk1 hS => ?_)
  obtain ⟨rfl, rfl⟩ := hw
  obtain ⟨hP, hD⟩ := PM_take ht hFc hB
  generalize H1 = H at hP hS ⊢
  have hP : va_P (dC, dI) vwCl (wM c0 a (rft (inn k 0 1) gd, n, wk, sd, bt, lt, lo, ct, rk, ad, sp, gd, rf, sm, js, sn, wl, vl, bg, cm)) H := hP
  have hD : va_D A (wM c0 a (rft (inn k 0 1) gd, n, wk, sd, bt, lt, lo, ct, rk, ad, sp, gd, rf, sm, js, sn, wl, vl, bg, cm)) := hD
  refine lv_if_eq (tgt := 17) hx hb dM0_steps_10 (by decide) (fun c_10 => ?_) (fun c_10 => ?_)
  · skip
    refine lv_iload_n hx hb dM0_steps_17 rfl (lv_at hl 1 rfl) ?_
    refine lv_if_ne (tgt := 28) hx hb dM0_steps_18 (by decide) (fun c_18 => ?_) (fun c_18 => ?_)
    · skip
      refine lv_aload_n hx hb dM0_steps_28 rfl (lv_at hl 0 rfl) ?_
      refine va_get (D := (dC, dI)) (ci := 4) (v := .int wl) (C := RM0) (T := TM0) (N := 20) hx hb hts inM0 hown hK hP 0 rfl rfl 16 (by decide) (hE.t m_443 rfl) (fun _ h9 => h9) rfl dM0_steps_29 ?_
      exact W.iret (v := wl) hx hb hr (fun t ht hW => ⟨⟨wl, (rft (inn k 0 1) gd, n, wk, sd, bt, lt, lo, ct, rk, ad, sp, gd, rf, sm, js, sn, wl, vl, bg, cm), rfl, (by simp only [m_steps, eq_true c_10, c_18, ↓reduceIte]), by rw [ht]; exact hP, va_K.moved hW.alike hK, hD⟩, hS.F ht⟩) hS.2.2 dM0_steps_32
    · skip
      refine lv_aload_n hx hb dM0_steps_21 rfl (lv_at hl 0 rfl) ?_
      refine va_get (D := (dC, dI)) (ci := 4) (v := .int sn) (C := RM0) (T := TM0) (N := 20) hx hb hts inM0 hown hK hP 0 rfl rfl 15 (by decide) (hE.t m_442 rfl) (fun _ h9 => h9) rfl dM0_steps_22 ?_
      refine lv_goto (tgt := 32) hx hb dM0_steps_25 (by decide) ?_
      exact W.iret (v := sn) hx hb hr (fun t ht hW => ⟨⟨sn, (rft (inn k 0 1) gd, n, wk, sd, bt, lt, lo, ct, rk, ad, sp, gd, rf, sm, js, sn, wl, vl, bg, cm), rfl, (by simp only [m_steps, eq_true c_10, eq_true c_18, ↓reduceIte]), by rw [ht]; exact hP, va_K.moved hW.alike hK, hD⟩, hS.F ht⟩) hS.2.2 dM0_steps_32
  · skip
    refine lv_iconst (v := 0) hx hb dM0_steps_13 (by decide) ?_
    refine lv_goto (tgt := 32) hx hb dM0_steps_14 (by decide) ?_
    exact W.iret (v := 0) hx hb hr (fun t ht hW => ⟨⟨0, (rft (inn k 0 1) gd, n, wk, sd, bt, lt, lo, ct, rk, ad, sp, gd, rf, sm, js, sn, wl, vl, bg, cm), rfl, (by simp only [m_steps, c_10, ↓reduceIte]), by rw [ht]; exact hP, va_K.moved hW.alike hK, hD⟩, hS.F ht⟩) hS.2.2 dM0_steps_32
set_option maxHeartbeats 4000000 in
set_option maxRecDepth 100000 in
/-- count -/
theorem c_M0_count (l : Launch) (dC : Nat → ClassId) (dI : Nat → Nat → Nat) (c0 : ClassId) (a : Nat → Nat) (sz : Nat) (th : Int32) (n : Nat) (wk sd bt lt lo : Nat → Int32) (ct : Nat) (rk ad : Nat → Int32) (sp gd rf : Int32) (sm : Int64) (js sn wl : Int32) (vl bg cm : Nat → Int32) (k : Int32) : Met l yM0_count wsM0_count ({ frames := 1, cells := 0, slots := 0, locals := 25 }) (va_Pc [.ref (a 0), .int k] (PM dC dI c0 a (th, n, wk, sd, bt, lt, lo, ct, rk, ad, sp, gd, rf, sm, js, sn, wl, vl, bg, cm) sz)) (va_Qi (fun (r : Int32) (u : mS) => m_count (th, n, wk, sd, bt, lt, lo, ct, rk, ad, sp, gd, rf, sm, js, sn, wl, vl, bg, cm) k = (r, u)) (BM dC dI c0 a (va_A (wM c0 a (th, n, wk, sd, bt, lt, lo, ct, rk, ad, sp, gd, rf, sm, js, sn, wl, vl, bg, cm)) sz)) (va_A (wM c0 a (th, n, wk, sd, bt, lt, lo, ct, rk, ad, sp, gd, rf, sm, js, sn, wl, vl, bg, cm)) sz)) 0 0 (va_A (wM c0 a (th, n, wk, sd, bt, lt, lo, ct, rk, ad, sp, gd, rf, sm, js, sn, wl, vl, bg, cm)) sz) := by
  refine Met.ofW (cc := cM0_count) (maxL := 2) (ret := (some .int)) (by decide) rfl ?_
  intro p e s m args below meth c s₁ B hml hv
  obtain ⟨rfl, hsz, hP, hK, hD0, hE⟩ := hv
  have hx := B.exec
  have hb := B.bytes
  have hr := B.returns
  have hown : s.vm.findClass RM0 = some m.cls := findClass_of_methodNamed B.named
  have hlocks := B.notSynchronized
  subst hsz
  have hD := hD0.self (sz := s.heap.size)
  generalize hAe : va_A (wM c0 a (th, n, wk, sd, bt, lt, lo, ct, rk, ad, sp, gd, rf, sm, js, sn, wl, vl, bg, cm)) s.heap.size = A at hD hE ⊢
  have hts := hE.ts (args := ([.ref (a 0), .int k] : List Value).toArray)
  have hA : ∀ q : Nat, s.heap.size ≤ q → A q := fun q h => by rw [← hAe]; exact Or.inr h
  have hS : va_S A s.heap s.heap [] := va_S.rf
  have hP : va_P (dC, dI) vwCl (wM c0 a (th, n, wk, sd, bt, lt, lo, ct, rk, ad, sp, gd, rf, sm, js, sn, wl, vl, bg, cm)) s.heap := hP
  have hl := lv_entry ([.ref (a 0), .int k]) (n := 2) (Nat.le_of_ble_eq_true rfl)
  rw [lg_entry_eq]
  generalize (lg_sl ([.ref (a 0), .int k]) ++ List.replicate (2 - (lg_sl ([.ref (a 0), .int k])).length) Slot.unset).toArray = ls at hl ⊢
  have hl : lv_has ls 2 [(0, .ref (a 0)), (1, .int k)] := hl
  refine lv_aload_n hx hb dM0_count_0 rfl (lv_at hl 0 rfl) ?_
  refine lv_iload_n hx hb dM0_count_1 rfl (lv_at hl 1 rfl) ?_
  refine lv_iconst (v := 0) hx hb dM0_count_2 (by decide) ?_
  refine lv_iconst (v := 3) hx hb dM0_count_3 (by decide) ?_
  have hFc := fre hD hS hA
  refine va_calli (va_runS (As := [.int k, .int 0, .int 3]) (rest := [.ref (a 0)]) ⟨hx, hb, hml, hown, hts⟩ (c_M0_in l dC dI c0 a _ th n wk sd bt lt lo ct rk ad sp gd rf sm js sn wl vl bg cm k 0 3) (va_cwS 3 hts gM0_count_M0_in rfl rfl rfl (by decide +kernel) ⟨(Nat.le_of_ble_eq_true rfl), (Nat.le_of_ble_eq_true rfl)⟩) ⟨PM_blind, PM_give hP hK hD hE hS hFc⟩ rfl rfl hl.1 rfl (lv_room (Nat.le_of_ble_eq_true rfl)) dM0_count_4 ⟨by decide, by decide⟩) hS (fun q _ h => hFc q h) hFc (fun r_4 u t H1 locs ht hvm hw hB hz1 hk1 hS => ?_)
  obtain ⟨rfl, rfl⟩ := hw
  obtain ⟨hP, hD⟩ := PM_take ht hFc hB
  generalize H1 = H at hP hS ⊢
  have hP : va_P (dC, dI) vwCl (wM c0 a (th, n, wk, sd, bt, lt, lo, ct, rk, ad, sp, gd, rf, sm, js, sn, wl, vl, bg, cm)) H := hP
  have hD : va_D A (wM c0 a (th, n, wk, sd, bt, lt, lo, ct, rk, ad, sp, gd, rf, sm, js, sn, wl, vl, bg, cm)) := hD
  refine lv_if_eq (tgt := 14) hx hb dM0_count_7 (by decide) (fun c_7 => ?_) (fun c_7 => ?_)
  · skip
    refine lv_iconst (v := 1) hx hb dM0_count_14 (by decide) ?_
    refine va_put (D := (dC, dI)) (ci := 4) (v := .int 1) (ty := .int) (C := RM0) (T := TM0) (N := 20) hx hb hts inM0 tyM0 tyM0_ok nmM0 hown hK hP hD hS 0 rfl rfl 0 (by decide) (hE.t m_427 rfl) (fun _ h9 => h9) rfl (by decide +kernel) rfl rfl (Nat.le_of_ble_eq_true rfl) dM0_count_15 (fun H locs hP hD hS => ?_)
    have hP : va_P (dC, dI) vwCl (wM c0 a (1, n, wk, sd, bt, lt, lo, ct, rk, ad, sp, gd, rf, sm, js, sn, wl, vl, bg, cm)) H := hP
    have hD : va_D A (wM c0 a (1, n, wk, sd, bt, lt, lo, ct, rk, ad, sp, gd, rf, sm, js, sn, wl, vl, bg, cm)) := hD
    refine lv_aload_n hx hb dM0_count_18 rfl (lv_at hl 0 rfl) ?_
    refine va_get (D := (dC, dI)) (ci := 4) (v := .int 1) (C := RM0) (T := TM0) (N := 20) hx hb hts inM0 hown hK hP 0 rfl rfl 0 (by decide) (hE.t m_427 rfl) (fun _ h9 => h9) rfl dM0_count_19 ?_
    refine lv_if_le (tgt := 29) hx hb dM0_count_22 (by decide) (fun c_22 => ?_) (fun c_22 => ?_)
    · skip
      exact absurd c_22 (by decide)
    · skip
      refine lv_iconst (v := 0) hx hb dM0_count_25 (by decide) ?_
      refine lv_goto (tgt := 68) hx hb dM0_count_26 (by decide) ?_
      exact W.iret (v := 0) hx hb hr (fun t ht hW => ⟨⟨0, (1, n, wk, sd, bt, lt, lo, ct, rk, ad, sp, gd, rf, sm, js, sn, wl, vl, bg, cm), rfl, (by simp only [m_count, eq_true c_7, c_22, ↓reduceIte]), by rw [ht]; exact hP, va_K.moved hW.alike hK, hD⟩, hS.F ht⟩) hS.2.2 dM0_count_68
  · skip
    refine lv_iconst (v := 0) hx hb dM0_count_10 (by decide) ?_
    refine lv_goto (tgt := 15) hx hb dM0_count_11 (by decide) ?_
    refine va_put (D := (dC, dI)) (ci := 4) (v := .int 0) (ty := .int) (C := RM0) (T := TM0) (N := 20) hx hb hts inM0 tyM0 tyM0_ok nmM0 hown hK hP hD hS 0 rfl rfl 0 (by decide) (hE.t m_427 rfl) (fun _ h9 => h9) rfl (by decide +kernel) rfl rfl (Nat.le_of_ble_eq_true rfl) dM0_count_15 (fun H locs hP hD hS => ?_)
    have hP : va_P (dC, dI) vwCl (wM c0 a (0, n, wk, sd, bt, lt, lo, ct, rk, ad, sp, gd, rf, sm, js, sn, wl, vl, bg, cm)) H := hP
    have hD : va_D A (wM c0 a (0, n, wk, sd, bt, lt, lo, ct, rk, ad, sp, gd, rf, sm, js, sn, wl, vl, bg, cm)) := hD
    refine lv_aload_n hx hb dM0_count_18 rfl (lv_at hl 0 rfl) ?_
    refine va_get (D := (dC, dI)) (ci := 4) (v := .int 0) (C := RM0) (T := TM0) (N := 20) hx hb hts inM0 hown hK hP 0 rfl rfl 0 (by decide) (hE.t m_427 rfl) (fun _ h9 => h9) rfl dM0_count_19 ?_
    refine lv_if_le (tgt := 29) hx hb dM0_count_22 (by decide) (fun c_22 => ?_) (fun c_22 => ?_)
    · skip
      refine lv_iload_n hx hb dM0_count_29 rfl (lv_at hl 1 rfl) ?_
      refine lv_if_ne (tgt := 40) hx hb dM0_count_30 (by decide) (fun c_30 => ?_) (fun c_30 => ?_)
      · skip
        refine lv_iload_n hx hb dM0_count_40 rfl (lv_at hl 1 rfl) ?_
        refine lv_iconst (v := 1) hx hb dM0_count_41 (by decide) ?_
        refine lv_icmp_ne (tgt := 52) hx hb dM0_count_42 (by decide) (fun c_42 => ?_) (fun c_42 => ?_)
        · skip
          refine lv_iload_n hx hb dM0_count_52 rfl (lv_at hl 1 rfl) ?_
          refine lv_iconst (v := 2) hx hb dM0_count_53 (by decide) ?_
          refine lv_icmp_ne (tgt := 64) hx hb dM0_count_54 (by decide) (fun c_54 => ?_) (fun c_54 => ?_)
          · skip
            refine lv_aload_n hx hb dM0_count_64 rfl (lv_at hl 0 rfl) ?_
            refine va_get (D := (dC, dI)) (ci := 4) (v := .int rf) (C := RM0) (T := TM0) (N := 20) hx hb hts inM0 hown hK hP 0 rfl rfl 12 (by decide) (hE.t m_439 rfl) (fun _ h9 => h9) rfl dM0_count_65 ?_
            exact W.iret (v := rf) hx hb hr (fun t ht hW => ⟨⟨rf, (0, n, wk, sd, bt, lt, lo, ct, rk, ad, sp, gd, rf, sm, js, sn, wl, vl, bg, cm), rfl, (by simp only [m_count, c_7, c_22, c_30, c_42, c_54, ↓reduceIte]), by rw [ht]; exact hP, va_K.moved hW.alike hK, hD⟩, hS.F ht⟩) hS.2.2 dM0_count_68
          · skip
            refine lv_aload_n hx hb dM0_count_57 rfl (lv_at hl 0 rfl) ?_
            refine va_get (D := (dC, dI)) (ci := 4) (v := .int gd) (C := RM0) (T := TM0) (N := 20) hx hb hts inM0 hown hK hP 0 rfl rfl 11 (by decide) (hE.t m_438 rfl) (fun _ h9 => h9) rfl dM0_count_58 ?_
            refine lv_goto (tgt := 68) hx hb dM0_count_61 (by decide) ?_
            exact W.iret (v := gd) hx hb hr (fun t ht hW => ⟨⟨gd, (0, n, wk, sd, bt, lt, lo, ct, rk, ad, sp, gd, rf, sm, js, sn, wl, vl, bg, cm), rfl, (by simp only [m_count, c_7, c_22, c_30, c_42, eq_true c_54, ↓reduceIte]), by rw [ht]; exact hP, va_K.moved hW.alike hK, hD⟩, hS.F ht⟩) hS.2.2 dM0_count_68
        · skip
          refine lv_aload_n hx hb dM0_count_45 rfl (lv_at hl 0 rfl) ?_
          refine va_get (D := (dC, dI)) (ci := 4) (v := .int (nI ct)) (C := RM0) (T := TM0) (N := 20) hx hb hts inM0 hown hK hP 0 rfl rfl 7 (by decide) (hE.t m_434 rfl) (fun _ h9 => h9) rfl dM0_count_46 ?_
          refine lv_goto (tgt := 68) hx hb dM0_count_49 (by decide) ?_
          exact W.iret (v := nI ct) hx hb hr (fun t ht hW => ⟨⟨nI ct, (0, n, wk, sd, bt, lt, lo, ct, rk, ad, sp, gd, rf, sm, js, sn, wl, vl, bg, cm), rfl, (by simp only [m_count, c_7, c_22, c_30, eq_true c_42, ↓reduceIte]), by rw [ht]; exact hP, va_K.moved hW.alike hK, hD⟩, hS.F ht⟩) hS.2.2 dM0_count_68
      · skip
        refine lv_aload_n hx hb dM0_count_33 rfl (lv_at hl 0 rfl) ?_
        refine va_get (D := (dC, dI)) (ci := 4) (v := .int (nI n)) (C := RM0) (T := TM0) (N := 20) hx hb hts inM0 hown hK hP 0 rfl rfl 1 (by decide) (hE.t m_428 rfl) (fun _ h9 => h9) rfl dM0_count_34 ?_
        refine lv_goto (tgt := 68) hx hb dM0_count_37 (by decide) ?_
        exact W.iret (v := nI n) hx hb hr (fun t ht hW => ⟨⟨nI n, (0, n, wk, sd, bt, lt, lo, ct, rk, ad, sp, gd, rf, sm, js, sn, wl, vl, bg, cm), rfl, (by simp only [m_count, c_7, c_22, eq_true c_30, ↓reduceIte]), by rw [ht]; exact hP, va_K.moved hW.alike hK, hD⟩, hS.F ht⟩) hS.2.2 dM0_count_68
    · skip
      exact absurd (by decide) c_22
