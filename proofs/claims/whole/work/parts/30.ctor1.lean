set_option maxHeartbeats 4000000 in
set_option maxRecDepth 100000 in
/-- Acts() -/
theorem c_X2_init (l : Launch) (dC : Nat → ClassId) (dI : Nat → Nat → Nat) (q : Nat) (sz : Nat)  : Met l yX2_init wsX2_init ({ frames := 1, cells := 2, slots := 48, locals := 40 }) (va_Pc [.ref q] (PJ dC dI [(q, .inr (2, [.null, .null, .int 0]))] sz)) (va_Qv (fun (u : ClassId × Nat × Nat) => True) (fun (u : ClassId × Nat × Nat) t => va_P (dC, dI) vwCl [(q, .inr (2, [.ref u.2.1, .ref u.2.2, .int (nI 0)])), (u.2.1, .inl (u.1, 24, .inl (fun _ => 0))), (u.2.2, .inl (u.1, 24, .inl (fun _ => 0)))] t.heap ∧ va_K (dC, dI) vwCl [(u.1, .int)] t ∧ va_D (va_A [(q, .inr (2, [.null, .null, .int 0]))] sz) [(q, .inr (2, [.ref u.2.1, .ref u.2.2, .int (nI 0)])), (u.2.1, .inl (u.1, 24, .inl (fun _ => 0))), (u.2.2, .inl (u.1, 24, .inl (fun _ => 0)))]) (va_A [(q, .inr (2, [.null, .null, .int 0]))] sz)) 2 48 (va_A [(q, .inr (2, [.null, .null, .int 0]))] sz) := by
  refine Met.ofW (cc := cX2_init) (maxL := 1) (ret := none) (by decide) rfl ?_
  intro p e s m args below meth c s₁ B hml hv
  obtain ⟨rfl, hsz, hP, hK, hD0, hE⟩ := hv
  have hx := B.exec
  have hb := B.bytes
  have hr := B.returns
  have hown : s.vm.findClass RX2 = some m.cls := findClass_of_methodNamed B.named
  have hlocks := B.notSynchronized
  have hin : meth.name = "<init>" := (name_of_methodNamed B.named B.method).1
  subst hsz
  have hD := hD0.self (sz := s.heap.size)
  generalize hAe : va_A [(q, .inr (2, [.null, .null, .int 0]))] s.heap.size = A at hD hE ⊢
  have hts := hE.ts (args := ([.ref q] : List Value).toArray)
  have hA : ∀ q : Nat, s.heap.size ≤ q → A q := fun q h => by rw [← hAe]; exact Or.inr h
  have hS : va_S A s.heap s.heap [] := va_S.rf
  have hP : va_P (dC, dI) vwCl ([(q, .inr (2, [.null, .null, .int 0]))]) s.heap := hP
  have hl := lv_entry ([.ref q]) (n := 1) (Nat.le_of_ble_eq_true rfl)
  rw [lg_entry_eq]
  generalize (lg_sl ([.ref q]) ++ List.replicate (1 - (lg_sl ([.ref q])).length) Slot.unset).toArray = ls at hl ⊢
  have hl : lv_has ls 1 [(0, .ref q)] := hl
  refine lv_aload_n hx hb dX2_init_0 rfl (lv_at hl 0 rfl) ?_
  refine W.objInit hx hb hown (hE.t m_90 rfl) (hE.t m_40 rfl) (hE.t m_41 rfl) rfl (by rw [hml]; exact hl.1) rfl dX2_init_1 (Nat.le_of_ble_eq_true rfl) (Nat.le_of_ble_eq_true rfl) ?_
  refine W.eq (g2 := F0 m 4 ls []) rfl ?_
  refine lv_aload_n hx hb dX2_init_4 rfl (lv_at hl 0 rfl) ?_
  refine lv_bipush (v := 24) hx hb dX2_init_5 (by decide) ?_
  refine va_newa (atype := .int) (ty := .int) (n := 24) (N' := 24) (a0 := (24, .inl (fun _ => 0))) hx hb (hE.t m_84 rfl) rfl hK hP hD hS hA (ha0 24) (by decide) (by decide) (by show 24 * 4 ≤ 536870912; omega) (by decide) (by show 0 + 24 ≤ 48; omega) dX2_init_7 (fun q7 cA7 H hK hP hD hS => ?_)
  refine W.widen (k := 1) (n := 24) (by omega) (by omega) ?_
  have hK : va_K (dC, dI) vwCl [(cA7, .int)] s := hK
  have hP : va_P (dC, dI) vwCl ([(q, .inr (2, [.null, .null, .int 0])), (q7, .inl (cA7, 24, .inl (fun _ => 0)))]) H := hP
  have hD : va_D A ([(q, .inr (2, [.null, .null, .int 0])), (q7, .inl (cA7, 24, .inl (fun _ => 0)))]) := hD
  refine va_putF (D := (dC, dI)) (ci := 2) (v := .ref q7) (ty := (.array .int)) (C := RX2) (T := TX2) (N := 3) hx hb hts inX2 tyX2 tyX2_ok nmX2 hown hK hP hD hS 0 rfl rfl 0 (by decide) (hE.t m_91 rfl) (fun _ h9 => h9) rfl hin rfl (by decide +kernel) rfl rfl (Nat.le_of_ble_eq_true rfl) dX2_init_9 (fun H locs hP hD hS => ?_)
  have hP : va_P (dC, dI) vwCl ([(q, .inr (2, [.ref q7, .null, .int 0])), (q7, .inl (cA7, 24, .inl (fun _ => 0)))]) H := hP
  have hD : va_D A ([(q, .inr (2, [.ref q7, .null, .int 0])), (q7, .inl (cA7, 24, .inl (fun _ => 0)))]) := hD
  refine lv_aload_n hx hb dX2_init_12 rfl (lv_at hl 0 rfl) ?_
  refine lv_bipush (v := 24) hx hb dX2_init_13 (by decide) ?_
  refine va_newa (atype := .int) (ty := .int) (n := 24) (N' := 24) (a0 := (24, .inl (fun _ => 0))) hx hb (hE.t m_84 rfl) rfl hK hP hD hS hA (ha0 24) (by decide) (by decide) (by show 24 * 4 ≤ 536870912; omega) (by decide) (by show 24 + 24 ≤ 48; omega) dX2_init_15 (fun q15 cA15 H hK hP hD hS => ?_)
  refine W.widen (k := 2) (n := 48) (by omega) (by omega) ?_
  have h9 : cA7 = cA15 := cls_eq hK 0 1 rfl rfl
  subst h9
  have hK : va_K (dC, dI) vwCl [(cA7, .int)] s := hK.sub [0] rfl
  have hP : va_P (dC, dI) vwCl ([(q, .inr (2, [.ref q7, .null, .int 0])), (q7, .inl (cA7, 24, .inl (fun _ => 0))), (q15, .inl (cA7, 24, .inl (fun _ => 0)))]) H := hP
  have hD : va_D A ([(q, .inr (2, [.ref q7, .null, .int 0])), (q7, .inl (cA7, 24, .inl (fun _ => 0))), (q15, .inl (cA7, 24, .inl (fun _ => 0)))]) := hD
  refine va_putF (D := (dC, dI)) (ci := 2) (v := .ref q15) (ty := (.array .int)) (C := RX2) (T := TX2) (N := 3) hx hb hts inX2 tyX2 tyX2_ok nmX2 hown hK hP hD hS 0 rfl rfl 1 (by decide) (hE.t m_93 rfl) (fun _ h9 => h9) rfl hin rfl (by decide +kernel) rfl rfl (Nat.le_of_ble_eq_true rfl) dX2_init_17 (fun H locs hP hD hS => ?_)
  have hP : va_P (dC, dI) vwCl ([(q, .inr (2, [.ref q7, .ref q15, .int 0])), (q7, .inl (cA7, 24, .inl (fun _ => 0))), (q15, .inl (cA7, 24, .inl (fun _ => 0)))]) H := hP
  have hD : va_D A ([(q, .inr (2, [.ref q7, .ref q15, .int 0])), (q7, .inl (cA7, 24, .inl (fun _ => 0))), (q15, .inl (cA7, 24, .inl (fun _ => 0)))]) := hD
  refine lv_aload_n hx hb dX2_init_20 rfl (lv_at hl 0 rfl) ?_
  refine lv_iconst (v := 0) hx hb dX2_init_21 (by decide) ?_
  refine va_put (D := (dC, dI)) (ci := 2) (v := .int 0) (ty := .int) (C := RX2) (T := TX2) (N := 3) hx hb hts inX2 tyX2 tyX2_ok nmX2 hown hK hP hD hS 0 rfl rfl 2 (by decide) (hE.t m_95 rfl) (fun _ h9 => h9) rfl (by decide +kernel) rfl rfl (Nat.le_of_ble_eq_true rfl) dX2_init_22 (fun H locs hP hD hS => ?_)
  have hP : va_P (dC, dI) vwCl ([(q, .inr (2, [.ref q7, .ref q15, .int 0])), (q7, .inl (cA7, 24, .inl (fun _ => 0))), (q15, .inl (cA7, 24, .inl (fun _ => 0)))]) H := hP
  have hD : va_D A ([(q, .inr (2, [.ref q7, .ref q15, .int 0])), (q7, .inl (cA7, 24, .inl (fun _ => 0))), (q15, .inl (cA7, 24, .inl (fun _ => 0)))]) := hD
  refine W.widen (k := 2) (n := 48) (by omega) (by omega) ?_
  exact W.vret hx hb hr (fun t ht hW => ⟨⟨(cA7, q7, q15), rfl, trivial, by rw [ht]; exact hP, va_K.moved hW.alike hK, hD⟩, hS.F ht⟩) hS.2.2 dX2_init_25

