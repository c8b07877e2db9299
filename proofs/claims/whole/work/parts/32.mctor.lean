set_option maxHeartbeats 4000000 in
set_option maxRecDepth 100000 in
/-- DrawSharesModel(p0) -/
theorem c_M0_init (l : Launch) (dC : Nat → ClassId) (dI : Nat → Nat → Nat) (q : Nat) (sz : Nat) (p0 : Int32) : Met l yM0_init wsM0_init ({ frames := 1, cells := 10, slots := 352, locals := 20 }) (va_Pc [.ref q, .int p0] (PJ dC dI [(q, .inr (4, [.int 0, .int 0, .null, .null, .null, .null, .null, .int 0, .null, .null, .int 0, .int 0, .int 0, .long 0, .int 0, .int 0, .int 0, .null, .null, .null]))] sz)) (va_Qv (fun (u : ClassId × (Nat → Nat)) => u.2 0 = q) (fun (u : ClassId × (Nat → Nat)) t => BM dC dI u.1 u.2 (va_A [(q, .inr (4, [.int 0, .int 0, .null, .null, .null, .null, .null, .int 0, .null, .null, .int 0, .int 0, .int 0, .long 0, .int 0, .int 0, .int 0, .null, .null, .null]))] sz) (m0 (szN p0)) t) (va_A [(q, .inr (4, [.int 0, .int 0, .null, .null, .null, .null, .null, .int 0, .null, .null, .int 0, .int 0, .int 0, .long 0, .int 0, .int 0, .int 0, .null, .null, .null]))] sz)) 10 352 (va_A [(q, .inr (4, [.int 0, .int 0, .null, .null, .null, .null, .null, .int 0, .null, .null, .int 0, .int 0, .int 0, .long 0, .int 0, .int 0, .int 0, .null, .null, .null]))] sz) := by
  refine Met.ofW (cc := cM0_init) (maxL := 3) (ret := none) (by decide) rfl ?_
  intro p e s m args below meth c s₁ B hml hv
  obtain ⟨rfl, hsz, hP, hK, hD0, hE⟩ := hv
  have hx := B.exec
  have hb := B.bytes
  have hr := B.returns
  have hown : s.vm.findClass RM0 = some m.cls := findClass_of_methodNamed B.named
  have hlocks := B.notSynchronized
  have hin : meth.name = "<init>" := (name_of_methodNamed B.named B.method).1
  subst hsz
  have hD := hD0.self (sz := s.heap.size)
  generalize hAe : va_A [(q, .inr (4, [.int 0, .int 0, .null, .null, .null, .null, .null, .int 0, .null, .null, .int 0, .int 0, .int 0, .long 0, .int 0, .int 0, .int 0, .null, .null, .null]))] s.heap.size = A at hD hE ⊢
  have hts := hE.ts (args := ([.ref q, .int p0] : List Value).toArray)
  have hA : ∀ q : Nat, s.heap.size ≤ q → A q := fun q h => by rw [← hAe]; exact Or.inr h
  have hS : va_S A s.heap s.heap [] := va_S.rf
  have hP : va_P (dC, dI) vwCl ([(q, .inr (4, [.int 0, .int 0, .null, .null, .null, .null, .null, .int 0, .null, .null, .int 0, .int 0, .int 0, .long 0, .int 0, .int 0, .int 0, .null, .null, .null]))]) s.heap := hP
  refine gz (P := fun Z => W p l e _ s m _ below meth c _ _ _ _ Z _) (fun Z hZ => ?_)
  show W p l e _ s m _ below meth c _ _ _ _ Z _
  have hl := lv_entry ([.ref q, .int p0]) (n := 3) (Nat.le_of_ble_eq_true rfl)
  rw [lg_entry_eq]
  generalize (lg_sl ([.ref q, .int p0]) ++ List.replicate (3 - (lg_sl ([.ref q, .int p0])).length) Slot.unset).toArray = ls at hl ⊢
  have hl : lv_has ls 3 [(0, .ref q), (1, .int p0)] := hl
  refine lv_aload_n hx hb dM0_init_0 rfl (lv_at hl 0 rfl) ?_
  refine W.objInit hx hb hown (hE.t m_426 rfl) (hE.t m_40 rfl) (hE.t m_41 rfl) rfl (by rw [hml]; exact hl.1) rfl dM0_init_1 (Nat.le_of_ble_eq_true rfl) (Nat.le_of_ble_eq_true rfl) ?_
  refine W.eq (g2 := F0 m 4 ls []) rfl ?_
  refine lv_aload_n hx hb dM0_init_4 rfl (lv_at hl 0 rfl) ?_
  refine lv_bipush (v := 40) hx hb dM0_init_5 (by decide) ?_
  refine va_newa (atype := .int) (ty := .int) (n := 40) (N' := 40) (a0 := (40, .inl (fun _ => 0))) hx hb (hE.t m_84 rfl) rfl hK hP hD hS hA (ha0 40) (by decide) (by decide) (by show 40 * 4 ≤ 536870912; omega) (by decide) (by show 0 + 40 ≤ 352; omega) dM0_init_7 (fun q7 cA7 H hK hP hD hS => ?_)
  refine W.widen (k := 1) (n := 40) (by omega) (by omega) ?_
  have hK : va_K (dC, dI) vwCl [(cA7, .int)] s := hK
  have hP : va_P (dC, dI) vwCl ([(q, .inr (4, [.int 0, .int 0, .null, .null, .null, .null, .null, .int 0, .null, .null, .int 0, .int 0, .int 0, .long 0, .int 0, .int 0, .int 0, .null, .null, .null])), (q7, .inl (cA7, 40, .inl (fun _ => 0)))]) H := hP
  have hD : va_D A ([(q, .inr (4, [.int 0, .int 0, .null, .null, .null, .null, .null, .int 0, .null, .null, .int 0, .int 0, .int 0, .long 0, .int 0, .int 0, .int 0, .null, .null, .null])), (q7, .inl (cA7, 40, .inl (fun _ => 0)))]) := hD
  refine va_putF (D := (dC, dI)) (ci := 4) (v := .ref q7) (ty := (.array .int)) (C := RM0) (T := TM0) (N := 20) hx hb hts inM0 tyM0 tyM0_ok nmM0 hown hK hP hD hS 0 rfl rfl 2 (by decide) (hE.t m_429 rfl) (fun _ h9 => h9) rfl hin rfl (by decide +kernel) rfl rfl (Nat.le_of_ble_eq_true rfl) dM0_init_9 (fun H locs hP hD hS => ?_)
  have hP : va_P (dC, dI) vwCl ([(q, .inr (4, [.int 0, .int 0, .ref q7, .null, .null, .null, .null, .int 0, .null, .null, .int 0, .int 0, .int 0, .long 0, .int 0, .int 0, .int 0, .null, .null, .null])), (q7, .inl (cA7, 40, .inl (fun _ => 0)))]) H := hP
  have hD : va_D A ([(q, .inr (4, [.int 0, .int 0, .ref q7, .null, .null, .null, .null, .int 0, .null, .null, .int 0, .int 0, .int 0, .long 0, .int 0, .int 0, .int 0, .null, .null, .null])), (q7, .inl (cA7, 40, .inl (fun _ => 0)))]) := hD
  refine lv_aload_n hx hb dM0_init_12 rfl (lv_at hl 0 rfl) ?_
  refine lv_bipush (v := 40) hx hb dM0_init_13 (by decide) ?_
  refine va_newa (atype := .int) (ty := .int) (n := 40) (N' := 40) (a0 := (40, .inl (fun _ => 0))) hx hb (hE.t m_84 rfl) rfl hK hP hD hS hA (ha0 40) (by decide) (by decide) (by show 40 * 4 ≤ 536870912; omega) (by decide) (by show 40 + 40 ≤ 352; omega) dM0_init_15 (fun q15 cA15 H hK hP hD hS => ?_)
  refine W.widen (k := 2) (n := 80) (by omega) (by omega) ?_
  have h9 : cA7 = cA15 := cls_eq hK 0 1 rfl rfl
  subst h9
  have hK : va_K (dC, dI) vwCl [(cA7, .int)] s := hK.sub [0] rfl
  have hP : va_P (dC, dI) vwCl ([(q, .inr (4, [.int 0, .int 0, .ref q7, .null, .null, .null, .null, .int 0, .null, .null, .int 0, .int 0, .int 0, .long 0, .int 0, .int 0, .int 0, .null, .null, .null])), (q7, .inl (cA7, 40, .inl (fun _ => 0))), (q15, .inl (cA7, 40, .inl (fun _ => 0)))]) H := hP
  have hD : va_D A ([(q, .inr (4, [.int 0, .int 0, .ref q7, .null, .null, .null, .null, .int 0, .null, .null, .int 0, .int 0, .int 0, .long 0, .int 0, .int 0, .int 0, .null, .null, .null])), (q7, .inl (cA7, 40, .inl (fun _ => 0))), (q15, .inl (cA7, 40, .inl (fun _ => 0)))]) := hD
  refine va_putF (D := (dC, dI)) (ci := 4) (v := .ref q15) (ty := (.array .int)) (C := RM0) (T := TM0) (N := 20) hx hb hts inM0 tyM0 tyM0_ok nmM0 hown hK hP hD hS 0 rfl rfl 3 (by decide) (hE.t m_430 rfl) (fun _ h9 => h9) rfl hin rfl (by decide +kernel) rfl rfl (Nat.le_of_ble_eq_true rfl) dM0_init_17 (fun H locs hP hD hS => ?_)
  have hP : va_P (dC, dI) vwCl ([(q, .inr (4, [.int 0, .int 0, .ref q7, .ref q15, .null, .null, .null, .int 0, .null, .null, .int 0, .int 0, .int 0, .long 0, .int 0, .int 0, .int 0, .null, .null, .null])), (q7, .inl (cA7, 40, .inl (fun _ => 0))), (q15, .inl (cA7, 40, .inl (fun _ => 0)))]) H := hP
  have hD : va_D A ([(q, .inr (4, [.int 0, .int 0, .ref q7, .ref q15, .null, .null, .null, .int 0, .null, .null, .int 0, .int 0, .int 0, .long 0, .int 0, .int 0, .int 0, .null, .null, .null])), (q7, .inl (cA7, 40, .inl (fun _ => 0))), (q15, .inl (cA7, 40, .inl (fun _ => 0)))]) := hD
  refine lv_aload_n hx hb dM0_init_20 rfl (lv_at hl 0 rfl) ?_
  refine lv_bipush (v := 40) hx hb dM0_init_21 (by decide) ?_
  refine va_newa (atype := .int) (ty := .int) (n := 40) (N' := 40) (a0 := (40, .inl (fun _ => 0))) hx hb (hE.t m_84 rfl) rfl hK hP hD hS hA (ha0 40) (by decide) (by decide) (by show 40 * 4 ≤ 536870912; omega) (by decide) (by show 80 + 40 ≤ 352; omega) dM0_init_23 (fun q23 cA23 H hK hP hD hS => ?_)
  refine W.widen (k := 3) (n := 120) (by omega) (by omega) ?_
  have h9 : cA7 = cA23 := cls_eq hK 0 1 rfl rfl
  subst h9
  have hK : va_K (dC, dI) vwCl [(cA7, .int)] s := hK.sub [0] rfl
  have hP : va_P (dC, dI) vwCl ([(q, .inr (4, [.int 0, .int 0, .ref q7, .ref q15, .null, .null, .null, .int 0, .null, .null, .int 0, .int 0, .int 0, .long 0, .int 0, .int 0, .int 0, .null, .null, .null])), (q7, .inl (cA7, 40, .inl (fun _ => 0))), (q15, .inl (cA7, 40, .inl (fun _ => 0))), (q23, .inl (cA7, 40, .inl (fun _ => 0)))]) H := hP
  have hD : va_D A ([(q, .inr (4, [.int 0, .int 0, .ref q7, .ref q15, .null, .null, .null, .int 0, .null, .null, .int 0, .int 0, .int 0, .long 0, .int 0, .int 0, .int 0, .null, .null, .null])), (q7, .inl (cA7, 40, .inl (fun _ => 0))), (q15, .inl (cA7, 40, .inl (fun _ => 0))), (q23, .inl (cA7, 40, .inl (fun _ => 0)))]) := hD
  refine va_putF (D := (dC, dI)) (ci := 4) (v := .ref q23) (ty := (.array .int)) (C := RM0) (T := TM0) (N := 20) hx hb hts inM0 tyM0 tyM0_ok nmM0 hown hK hP hD hS 0 rfl rfl 4 (by decide) (hE.t m_431 rfl) (fun _ h9 => h9) rfl hin rfl (by decide +kernel) rfl rfl (Nat.le_of_ble_eq_true rfl) dM0_init_25 (fun H locs hP hD hS => ?_)
  have hP : va_P (dC, dI) vwCl ([(q, .inr (4, [.int 0, .int 0, .ref q7, .ref q15, .ref q23, .null, .null, .int 0, .null, .null, .int 0, .int 0, .int 0, .long 0, .int 0, .int 0, .int 0, .null, .null, .null])), (q7, .inl (cA7, 40, .inl (fun _ => 0))), (q15, .inl (cA7, 40, .inl (fun _ => 0))), (q23, .inl (cA7, 40, .inl (fun _ => 0)))]) H := hP
  have hD : va_D A ([(q, .inr (4, [.int 0, .int 0, .ref q7, .ref q15, .ref q23, .null, .null, .int 0, .null, .null, .int 0, .int 0, .int 0, .long 0, .int 0, .int 0, .int 0, .null, .null, .null])), (q7, .inl (cA7, 40, .inl (fun _ => 0))), (q15, .inl (cA7, 40, .inl (fun _ => 0))), (q23, .inl (cA7, 40, .inl (fun _ => 0)))]) := hD
  refine lv_aload_n hx hb dM0_init_28 rfl (lv_at hl 0 rfl) ?_
  refine lv_bipush (v := 40) hx hb dM0_init_29 (by decide) ?_
  refine va_newa (atype := .int) (ty := .int) (n := 40) (N' := 40) (a0 := (40, .inl (fun _ => 0))) hx hb (hE.t m_84 rfl) rfl hK hP hD hS hA (ha0 40) (by decide) (by decide) (by show 40 * 4 ≤ 536870912; omega) (by decide) (by show 120 + 40 ≤ 352; omega) dM0_init_31 (fun q31 cA31 H hK hP hD hS => ?_)
  refine W.widen (k := 4) (n := 160) (by omega) (by omega) ?_
  have h9 : cA7 = cA31 := cls_eq hK 0 1 rfl rfl
  subst h9
  have hK : va_K (dC, dI) vwCl [(cA7, .int)] s := hK.sub [0] rfl
  have hP : va_P (dC, dI) vwCl ([(q, .inr (4, [.int 0, .int 0, .ref q7, .ref q15, .ref q23, .null, .null, .int 0, .null, .null, .int 0, .int 0, .int 0, .long 0, .int 0, .int 0, .int 0, .null, .null, .null])), (q7, .inl (cA7, 40, .inl (fun _ => 0))), (q15, .inl (cA7, 40, .inl (fun _ => 0))), (q23, .inl (cA7, 40, .inl (fun _ => 0))), (q31, .inl (cA7, 40, .inl (fun _ => 0)))]) H := hP
  have hD : va_D A ([(q, .inr (4, [.int 0, .int 0, .ref q7, .ref q15, .ref q23, .null, .null, .int 0, .null, .null, .int 0, .int 0, .int 0, .long 0, .int 0, .int 0, .int 0, .null, .null, .null])), (q7, .inl (cA7, 40, .inl (fun _ => 0))), (q15, .inl (cA7, 40, .inl (fun _ => 0))), (q23, .inl (cA7, 40, .inl (fun _ => 0))), (q31, .inl (cA7, 40, .inl (fun _ => 0)))]) := hD
  refine va_putF (D := (dC, dI)) (ci := 4) (v := .ref q31) (ty := (.array .int)) (C := RM0) (T := TM0) (N := 20) hx hb hts inM0 tyM0 tyM0_ok nmM0 hown hK hP hD hS 0 rfl rfl 5 (by decide) (hE.t m_432 rfl) (fun _ h9 => h9) rfl hin rfl (by decide +kernel) rfl rfl (Nat.le_of_ble_eq_true rfl) dM0_init_33 (fun H locs hP hD hS => ?_)
  have hP : va_P (dC, dI) vwCl ([(q, .inr (4, [.int 0, .int 0, .ref q7, .ref q15, .ref q23, .ref q31, .null, .int 0, .null, .null, .int 0, .int 0, .int 0, .long 0, .int 0, .int 0, .int 0, .null, .null, .null])), (q7, .inl (cA7, 40, .inl (fun _ => 0))), (q15, .inl (cA7, 40, .inl (fun _ => 0))), (q23, .inl (cA7, 40, .inl (fun _ => 0))), (q31, .inl (cA7, 40, .inl (fun _ => 0)))]) H := hP
  have hD : va_D A ([(q, .inr (4, [.int 0, .int 0, .ref q7, .ref q15, .ref q23, .ref q31, .null, .int 0, .null, .null, .int 0, .int 0, .int 0, .long 0, .int 0, .int 0, .int 0, .null, .null, .null])), (q7, .inl (cA7, 40, .inl (fun _ => 0))), (q15, .inl (cA7, 40, .inl (fun _ => 0))), (q23, .inl (cA7, 40, .inl (fun _ => 0))), (q31, .inl (cA7, 40, .inl (fun _ => 0)))]) := hD
  refine lv_aload_n hx hb dM0_init_36 rfl (lv_at hl 0 rfl) ?_
  refine lv_bipush (v := 40) hx hb dM0_init_37 (by decide) ?_
  refine va_newa (atype := .int) (ty := .int) (n := 40) (N' := 40) (a0 := (40, .inl (fun _ => 0))) hx hb (hE.t m_84 rfl) rfl hK hP hD hS hA (ha0 40) (by decide) (by decide) (by show 40 * 4 ≤ 536870912; omega) (by decide) (by show 160 + 40 ≤ 352; omega) dM0_init_39 (fun q39 cA39 H hK hP hD hS => ?_)
  refine W.widen (k := 5) (n := 200) (by omega) (by omega) ?_
  have h9 : cA7 = cA39 := cls_eq hK 0 1 rfl rfl
  subst h9
  have hK : va_K (dC, dI) vwCl [(cA7, .int)] s := hK.sub [0] rfl
  have hP : va_P (dC, dI) vwCl ([(q, .inr (4, [.int 0, .int 0, .ref q7, .ref q15, .ref q23, .ref q31, .null, .int 0, .null, .null, .int 0, .int 0, .int 0, .long 0, .int 0, .int 0, .int 0, .null, .null, .null])), (q7, .inl (cA7, 40, .inl (fun _ => 0))), (q15, .inl (cA7, 40, .inl (fun _ => 0))), (q23, .inl (cA7, 40, .inl (fun _ => 0))), (q31, .inl (cA7, 40, .inl (fun _ => 0))), (q39, .inl (cA7, 40, .inl (fun _ => 0)))]) H := hP
  have hD : va_D A ([(q, .inr (4, [.int 0, .int 0, .ref q7, .ref q15, .ref q23, .ref q31, .null, .int 0, .null, .null, .int 0, .int 0, .int 0, .long 0, .int 0, .int 0, .int 0, .null, .null, .null])), (q7, .inl (cA7, 40, .inl (fun _ => 0))), (q15, .inl (cA7, 40, .inl (fun _ => 0))), (q23, .inl (cA7, 40, .inl (fun _ => 0))), (q31, .inl (cA7, 40, .inl (fun _ => 0))), (q39, .inl (cA7, 40, .inl (fun _ => 0)))]) := hD
  refine va_putF (D := (dC, dI)) (ci := 4) (v := .ref q39) (ty := (.array .int)) (C := RM0) (T := TM0) (N := 20) hx hb hts inM0 tyM0 tyM0_ok nmM0 hown hK hP hD hS 0 rfl rfl 6 (by decide) (hE.t m_433 rfl) (fun _ h9 => h9) rfl hin rfl (by decide +kernel) rfl rfl (Nat.le_of_ble_eq_true rfl) dM0_init_41 (fun H locs hP hD hS => ?_)
  have hP : va_P (dC, dI) vwCl ([(q, .inr (4, [.int 0, .int 0, .ref q7, .ref q15, .ref q23, .ref q31, .ref q39, .int 0, .null, .null, .int 0, .int 0, .int 0, .long 0, .int 0, .int 0, .int 0, .null, .null, .null])), (q7, .inl (cA7, 40, .inl (fun _ => 0))), (q15, .inl (cA7, 40, .inl (fun _ => 0))), (q23, .inl (cA7, 40, .inl (fun _ => 0))), (q31, .inl (cA7, 40, .inl (fun _ => 0))), (q39, .inl (cA7, 40, .inl (fun _ => 0)))]) H := hP
  have hD : va_D A ([(q, .inr (4, [.int 0, .int 0, .ref q7, .ref q15, .ref q23, .ref q31, .ref q39, .int 0, .null, .null, .int 0, .int 0, .int 0, .long 0, .int 0, .int 0, .int 0, .null, .null, .null])), (q7, .inl (cA7, 40, .inl (fun _ => 0))), (q15, .inl (cA7, 40, .inl (fun _ => 0))), (q23, .inl (cA7, 40, .inl (fun _ => 0))), (q31, .inl (cA7, 40, .inl (fun _ => 0))), (q39, .inl (cA7, 40, .inl (fun _ => 0)))]) := hD
  refine lv_aload_n hx hb dM0_init_44 rfl (lv_at hl 0 rfl) ?_
  refine lv_bipush (v := 24) hx hb dM0_init_45 (by decide) ?_
  refine va_newa (atype := .int) (ty := .int) (n := 24) (N' := 24) (a0 := (24, .inl (fun _ => 0))) hx hb (hE.t m_84 rfl) rfl hK hP hD hS hA (ha0 24) (by decide) (by decide) (by show 24 * 4 ≤ 536870912; omega) (by decide) (by show 200 + 24 ≤ 352; omega) dM0_init_47 (fun q47 cA47 H hK hP hD hS => ?_)
  refine W.widen (k := 6) (n := 224) (by omega) (by omega) ?_
  have h9 : cA7 = cA47 := cls_eq hK 0 1 rfl rfl
  subst h9
  have hK : va_K (dC, dI) vwCl [(cA7, .int)] s := hK.sub [0] rfl
  have hP : va_P (dC, dI) vwCl ([(q, .inr (4, [.int 0, .int 0, .ref q7, .ref q15, .ref q23, .ref q31, .ref q39, .int 0, .null, .null, .int 0, .int 0, .int 0, .long 0, .int 0, .int 0, .int 0, .null, .null, .null])), (q7, .inl (cA7, 40, .inl (fun _ => 0))), (q15, .inl (cA7, 40, .inl (fun _ => 0))), (q23, .inl (cA7, 40, .inl (fun _ => 0))), (q31, .inl (cA7, 40, .inl (fun _ => 0))), (q39, .inl (cA7, 40, .inl (fun _ => 0))), (q47, .inl (cA7, 24, .inl (fun _ => 0)))]) H := hP
  have hD : va_D A ([(q, .inr (4, [.int 0, .int 0, .ref q7, .ref q15, .ref q23, .ref q31, .ref q39, .int 0, .null, .null, .int 0, .int 0, .int 0, .long 0, .int 0, .int 0, .int 0, .null, .null, .null])), (q7, .inl (cA7, 40, .inl (fun _ => 0))), (q15, .inl (cA7, 40, .inl (fun _ => 0))), (q23, .inl (cA7, 40, .inl (fun _ => 0))), (q31, .inl (cA7, 40, .inl (fun _ => 0))), (q39, .inl (cA7, 40, .inl (fun _ => 0))), (q47, .inl (cA7, 24, .inl (fun _ => 0)))]) := hD
  refine va_putF (D := (dC, dI)) (ci := 4) (v := .ref q47) (ty := (.array .int)) (C := RM0) (T := TM0) (N := 20) hx hb hts inM0 tyM0 tyM0_ok nmM0 hown hK hP hD hS 0 rfl rfl 8 (by decide) (hE.t m_435 rfl) (fun _ h9 => h9) rfl hin rfl (by decide +kernel) rfl rfl (Nat.le_of_ble_eq_true rfl) dM0_init_49 (fun H locs hP hD hS => ?_)
  have hP : va_P (dC, dI) vwCl ([(q, .inr (4, [.int 0, .int 0, .ref q7, .ref q15, .ref q23, .ref q31, .ref q39, .int 0, .ref q47, .null, .int 0, .int 0, .int 0, .long 0, .int 0, .int 0, .int 0, .null, .null, .null])), (q7, .inl (cA7, 40, .inl (fun _ => 0))), (q15, .inl (cA7, 40, .inl (fun _ => 0))), (q23, .inl (cA7, 40, .inl (fun _ => 0))), (q31, .inl (cA7, 40, .inl (fun _ => 0))), (q39, .inl (cA7, 40, .inl (fun _ => 0))), (q47, .inl (cA7, 24, .inl (fun _ => 0)))]) H := hP
  have hD : va_D A ([(q, .inr (4, [.int 0, .int 0, .ref q7, .ref q15, .ref q23, .ref q31, .ref q39, .int 0, .ref q47, .null, .int 0, .int 0, .int 0, .long 0, .int 0, .int 0, .int 0, .null, .null, .null])), (q7, .inl (cA7, 40, .inl (fun _ => 0))), (q15, .inl (cA7, 40, .inl (fun _ => 0))), (q23, .inl (cA7, 40, .inl (fun _ => 0))), (q31, .inl (cA7, 40, .inl (fun _ => 0))), (q39, .inl (cA7, 40, .inl (fun _ => 0))), (q47, .inl (cA7, 24, .inl (fun _ => 0)))]) := hD
  refine lv_aload_n hx hb dM0_init_52 rfl (lv_at hl 0 rfl) ?_
  refine lv_bipush (v := 24) hx hb dM0_init_53 (by decide) ?_
  refine va_newa (atype := .int) (ty := .int) (n := 24) (N' := 24) (a0 := (24, .inl (fun _ => 0))) hx hb (hE.t m_84 rfl) rfl hK hP hD hS hA (ha0 24) (by decide) (by decide) (by show 24 * 4 ≤ 536870912; omega) (by decide) (by show 224 + 24 ≤ 352; omega) dM0_init_55 (fun q55 cA55 H hK hP hD hS => ?_)
  refine W.widen (k := 7) (n := 248) (by omega) (by omega) ?_
  have h9 : cA7 = cA55 := cls_eq hK 0 1 rfl rfl
  subst h9
  have hK : va_K (dC, dI) vwCl [(cA7, .int)] s := hK.sub [0] rfl
  have hP : va_P (dC, dI) vwCl ([(q, .inr (4, [.int 0, .int 0, .ref q7, .ref q15, .ref q23, .ref q31, .ref q39, .int 0, .ref q47, .null, .int 0, .int 0, .int 0, .long 0, .int 0, .int 0, .int 0, .null, .null, .null])), (q7, .inl (cA7, 40, .inl (fun _ => 0))), (q15, .inl (cA7, 40, .inl (fun _ => 0))), (q23, .inl (cA7, 40, .inl (fun _ => 0))), (q31, .inl (cA7, 40, .inl (fun _ => 0))), (q39, .inl (cA7, 40, .inl (fun _ => 0))), (q47, .inl (cA7, 24, .inl (fun _ => 0))), (q55, .inl (cA7, 24, .inl (fun _ => 0)))]) H := hP
  have hD : va_D A ([(q, .inr (4, [.int 0, .int 0, .ref q7, .ref q15, .ref q23, .ref q31, .ref q39, .int 0, .ref q47, .null, .int 0, .int 0, .int 0, .long 0, .int 0, .int 0, .int 0, .null, .null, .null])), (q7, .inl (cA7, 40, .inl (fun _ => 0))), (q15, .inl (cA7, 40, .inl (fun _ => 0))), (q23, .inl (cA7, 40, .inl (fun _ => 0))), (q31, .inl (cA7, 40, .inl (fun _ => 0))), (q39, .inl (cA7, 40, .inl (fun _ => 0))), (q47, .inl (cA7, 24, .inl (fun _ => 0))), (q55, .inl (cA7, 24, .inl (fun _ => 0)))]) := hD
  refine va_putF (D := (dC, dI)) (ci := 4) (v := .ref q55) (ty := (.array .int)) (C := RM0) (T := TM0) (N := 20) hx hb hts inM0 tyM0 tyM0_ok nmM0 hown hK hP hD hS 0 rfl rfl 9 (by decide) (hE.t m_436 rfl) (fun _ h9 => h9) rfl hin rfl (by decide +kernel) rfl rfl (Nat.le_of_ble_eq_true rfl) dM0_init_57 (fun H locs hP hD hS => ?_)
  have hP : va_P (dC, dI) vwCl ([(q, .inr (4, [.int 0, .int 0, .ref q7, .ref q15, .ref q23, .ref q31, .ref q39, .int 0, .ref q47, .ref q55, .int 0, .int 0, .int 0, .long 0, .int 0, .int 0, .int 0, .null, .null, .null])), (q7, .inl (cA7, 40, .inl (fun _ => 0))), (q15, .inl (cA7, 40, .inl (fun _ => 0))), (q23, .inl (cA7, 40, .inl (fun _ => 0))), (q31, .inl (cA7, 40, .inl (fun _ => 0))), (q39, .inl (cA7, 40, .inl (fun _ => 0))), (q47, .inl (cA7, 24, .inl (fun _ => 0))), (q55, .inl (cA7, 24, .inl (fun _ => 0)))]) H := hP
  have hD : va_D A ([(q, .inr (4, [.int 0, .int 0, .ref q7, .ref q15, .ref q23, .ref q31, .ref q39, .int 0, .ref q47, .ref q55, .int 0, .int 0, .int 0, .long 0, .int 0, .int 0, .int 0, .null, .null, .null])), (q7, .inl (cA7, 40, .inl (fun _ => 0))), (q15, .inl (cA7, 40, .inl (fun _ => 0))), (q23, .inl (cA7, 40, .inl (fun _ => 0))), (q31, .inl (cA7, 40, .inl (fun _ => 0))), (q39, .inl (cA7, 40, .inl (fun _ => 0))), (q47, .inl (cA7, 24, .inl (fun _ => 0))), (q55, .inl (cA7, 24, .inl (fun _ => 0)))]) := hD
  refine lv_aload_n hx hb dM0_init_60 rfl (lv_at hl 0 rfl) ?_
  refine lv_iconst (v := (-1)) hx hb dM0_init_61 (by decide) ?_
  refine va_put (D := (dC, dI)) (ci := 4) (v := .int (-1)) (ty := .int) (C := RM0) (T := TM0) (N := 20) hx hb hts inM0 tyM0 tyM0_ok nmM0 hown hK hP hD hS 0 rfl rfl 10 (by decide) (hE.t m_437 rfl) (fun _ h9 => h9) rfl (by decide +kernel) rfl rfl (Nat.le_of_ble_eq_true rfl) dM0_init_62 (fun H locs hP hD hS => ?_)
  have hP : va_P (dC, dI) vwCl ([(q, .inr (4, [.int 0, .int 0, .ref q7, .ref q15, .ref q23, .ref q31, .ref q39, .int 0, .ref q47, .ref q55, .int (-1), .int 0, .int 0, .long 0, .int 0, .int 0, .int 0, .null, .null, .null])), (q7, .inl (cA7, 40, .inl (fun _ => 0))), (q15, .inl (cA7, 40, .inl (fun _ => 0))), (q23, .inl (cA7, 40, .inl (fun _ => 0))), (q31, .inl (cA7, 40, .inl (fun _ => 0))), (q39, .inl (cA7, 40, .inl (fun _ => 0))), (q47, .inl (cA7, 24, .inl (fun _ => 0))), (q55, .inl (cA7, 24, .inl (fun _ => 0)))]) H := hP
  have hD : va_D A ([(q, .inr (4, [.int 0, .int 0, .ref q7, .ref q15, .ref q23, .ref q31, .ref q39, .int 0, .ref q47, .ref q55, .int (-1), .int 0, .int 0, .long 0, .int 0, .int 0, .int 0, .null, .null, .null])), (q7, .inl (cA7, 40, .inl (fun _ => 0))), (q15, .inl (cA7, 40, .inl (fun _ => 0))), (q23, .inl (cA7, 40, .inl (fun _ => 0))), (q31, .inl (cA7, 40, .inl (fun _ => 0))), (q39, .inl (cA7, 40, .inl (fun _ => 0))), (q47, .inl (cA7, 24, .inl (fun _ => 0))), (q55, .inl (cA7, 24, .inl (fun _ => 0)))]) := hD
  refine lv_aload_n hx hb dM0_init_65 rfl (lv_at hl 0 rfl) ?_
  refine lv_bipush (v := 40) hx hb dM0_init_66 (by decide) ?_
  refine va_newa (atype := .int) (ty := .int) (n := 40) (N' := 40) (a0 := (40, .inl (fun _ => 0))) hx hb (hE.t m_84 rfl) rfl hK hP hD hS hA (ha0 40) (by decide) (by decide) (by show 40 * 4 ≤ 536870912; omega) (by decide) (by show 248 + 40 ≤ 352; omega) dM0_init_68 (fun q68 cA68 H hK hP hD hS => ?_)
  refine W.widen (k := 8) (n := 288) (by omega) (by omega) ?_
  have h9 : cA7 = cA68 := cls_eq hK 0 1 rfl rfl
  subst h9
  have hK : va_K (dC, dI) vwCl [(cA7, .int)] s := hK.sub [0] rfl
  have hP : va_P (dC, dI) vwCl ([(q, .inr (4, [.int 0, .int 0, .ref q7, .ref q15, .ref q23, .ref q31, .ref q39, .int 0, .ref q47, .ref q55, .int (-1), .int 0, .int 0, .long 0, .int 0, .int 0, .int 0, .null, .null, .null])), (q7, .inl (cA7, 40, .inl (fun _ => 0))), (q15, .inl (cA7, 40, .inl (fun _ => 0))), (q23, .inl (cA7, 40, .inl (fun _ => 0))), (q31, .inl (cA7, 40, .inl (fun _ => 0))), (q39, .inl (cA7, 40, .inl (fun _ => 0))), (q47, .inl (cA7, 24, .inl (fun _ => 0))), (q55, .inl (cA7, 24, .inl (fun _ => 0))), (q68, .inl (cA7, 40, .inl (fun _ => 0)))]) H := hP
  have hD : va_D A ([(q, .inr (4, [.int 0, .int 0, .ref q7, .ref q15, .ref q23, .ref q31, .ref q39, .int 0, .ref q47, .ref q55, .int (-1), .int 0, .int 0, .long 0, .int 0, .int 0, .int 0, .null, .null, .null])), (q7, .inl (cA7, 40, .inl (fun _ => 0))), (q15, .inl (cA7, 40, .inl (fun _ => 0))), (q23, .inl (cA7, 40, .inl (fun _ => 0))), (q31, .inl (cA7, 40, .inl (fun _ => 0))), (q39, .inl (cA7, 40, .inl (fun _ => 0))), (q47, .inl (cA7, 24, .inl (fun _ => 0))), (q55, .inl (cA7, 24, .inl (fun _ => 0))), (q68, .inl (cA7, 40, .inl (fun _ => 0)))]) := hD
  refine va_putF (D := (dC, dI)) (ci := 4) (v := .ref q68) (ty := (.array .int)) (C := RM0) (T := TM0) (N := 20) hx hb hts inM0 tyM0 tyM0_ok nmM0 hown hK hP hD hS 0 rfl rfl 17 (by decide) (hE.t m_444 rfl) (fun _ h9 => h9) rfl hin rfl (by decide +kernel) rfl rfl (Nat.le_of_ble_eq_true rfl) dM0_init_70 (fun H locs hP hD hS => ?_)
  have hP : va_P (dC, dI) vwCl ([(q, .inr (4, [.int 0, .int 0, .ref q7, .ref q15, .ref q23, .ref q31, .ref q39, .int 0, .ref q47, .ref q55, .int (-1), .int 0, .int 0, .long 0, .int 0, .int 0, .int 0, .ref q68, .null, .null])), (q7, .inl (cA7, 40, .inl (fun _ => 0))), (q15, .inl (cA7, 40, .inl (fun _ => 0))), (q23, .inl (cA7, 40, .inl (fun _ => 0))), (q31, .inl (cA7, 40, .inl (fun _ => 0))), (q39, .inl (cA7, 40, .inl (fun _ => 0))), (q47, .inl (cA7, 24, .inl (fun _ => 0))), (q55, .inl (cA7, 24, .inl (fun _ => 0))), (q68, .inl (cA7, 40, .inl (fun _ => 0)))]) H := hP
  have hD : va_D A ([(q, .inr (4, [.int 0, .int 0, .ref q7, .ref q15, .ref q23, .ref q31, .ref q39, .int 0, .ref q47, .ref q55, .int (-1), .int 0, .int 0, .long 0, .int 0, .int 0, .int 0, .ref q68, .null, .null])), (q7, .inl (cA7, 40, .inl (fun _ => 0))), (q15, .inl (cA7, 40, .inl (fun _ => 0))), (q23, .inl (cA7, 40, .inl (fun _ => 0))), (q31, .inl (cA7, 40, .inl (fun _ => 0))), (q39, .inl (cA7, 40, .inl (fun _ => 0))), (q47, .inl (cA7, 24, .inl (fun _ => 0))), (q55, .inl (cA7, 24, .inl (fun _ => 0))), (q68, .inl (cA7, 40, .inl (fun _ => 0)))]) := hD
  refine lv_aload_n hx hb dM0_init_73 rfl (lv_at hl 0 rfl) ?_
  refine lv_bipush (v := 40) hx hb dM0_init_74 (by decide) ?_
  refine va_newa (atype := .int) (ty := .int) (n := 40) (N' := 40) (a0 := (40, .inl (fun _ => 0))) hx hb (hE.t m_84 rfl) rfl hK hP hD hS hA (ha0 40) (by decide) (by decide) (by show 40 * 4 ≤ 536870912; omega) (by decide) (by show 288 + 40 ≤ 352; omega) dM0_init_76 (fun q76 cA76 H hK hP hD hS => ?_)
  refine W.widen (k := 9) (n := 328) (by omega) (by omega) ?_
  have h9 : cA7 = cA76 := cls_eq hK 0 1 rfl rfl
  subst h9
  have hK : va_K (dC, dI) vwCl [(cA7, .int)] s := hK.sub [0] rfl
  have hP : va_P (dC, dI) vwCl ([(q, .inr (4, [.int 0, .int 0, .ref q7, .ref q15, .ref q23, .ref q31, .ref q39, .int 0, .ref q47, .ref q55, .int (-1), .int 0, .int 0, .long 0, .int 0, .int 0, .int 0, .ref q68, .null, .null])), (q7, .inl (cA7, 40, .inl (fun _ => 0))), (q15, .inl (cA7, 40, .inl (fun _ => 0))), (q23, .inl (cA7, 40, .inl (fun _ => 0))), (q31, .inl (cA7, 40, .inl (fun _ => 0))), (q39, .inl (cA7, 40, .inl (fun _ => 0))), (q47, .inl (cA7, 24, .inl (fun _ => 0))), (q55, .inl (cA7, 24, .inl (fun _ => 0))), (q68, .inl (cA7, 40, .inl (fun _ => 0))), (q76, .inl (cA7, 40, .inl (fun _ => 0)))]) H := hP
  have hD : va_D A ([(q, .inr (4, [.int 0, .int 0, .ref q7, .ref q15, .ref q23, .ref q31, .ref q39, .int 0, .ref q47, .ref q55, .int (-1), .int 0, .int 0, .long 0, .int 0, .int 0, .int 0, .ref q68, .null, .null])), (q7, .inl (cA7, 40, .inl (fun _ => 0))), (q15, .inl (cA7, 40, .inl (fun _ => 0))), (q23, .inl (cA7, 40, .inl (fun _ => 0))), (q31, .inl (cA7, 40, .inl (fun _ => 0))), (q39, .inl (cA7, 40, .inl (fun _ => 0))), (q47, .inl (cA7, 24, .inl (fun _ => 0))), (q55, .inl (cA7, 24, .inl (fun _ => 0))), (q68, .inl (cA7, 40, .inl (fun _ => 0))), (q76, .inl (cA7, 40, .inl (fun _ => 0)))]) := hD
  refine va_putF (D := (dC, dI)) (ci := 4) (v := .ref q76) (ty := (.array .int)) (C := RM0) (T := TM0) (N := 20) hx hb hts inM0 tyM0 tyM0_ok nmM0 hown hK hP hD hS 0 rfl rfl 18 (by decide) (hE.t m_445 rfl) (fun _ h9 => h9) rfl hin rfl (by decide +kernel) rfl rfl (Nat.le_of_ble_eq_true rfl) dM0_init_78 (fun H locs hP hD hS => ?_)
  have hP : va_P (dC, dI) vwCl ([(q, .inr (4, [.int 0, .int 0, .ref q7, .ref q15, .ref q23, .ref q31, .ref q39, .int 0, .ref q47, .ref q55, .int (-1), .int 0, .int 0, .long 0, .int 0, .int 0, .int 0, .ref q68, .ref q76, .null])), (q7, .inl (cA7, 40, .inl (fun _ => 0))), (q15, .inl (cA7, 40, .inl (fun _ => 0))), (q23, .inl (cA7, 40, .inl (fun _ => 0))), (q31, .inl (cA7, 40, .inl (fun _ => 0))), (q39, .inl (cA7, 40, .inl (fun _ => 0))), (q47, .inl (cA7, 24, .inl (fun _ => 0))), (q55, .inl (cA7, 24, .inl (fun _ => 0))), (q68, .inl (cA7, 40, .inl (fun _ => 0))), (q76, .inl (cA7, 40, .inl (fun _ => 0)))]) H := hP
  have hD : va_D A ([(q, .inr (4, [.int 0, .int 0, .ref q7, .ref q15, .ref q23, .ref q31, .ref q39, .int 0, .ref q47, .ref q55, .int (-1), .int 0, .int 0, .long 0, .int 0, .int 0, .int 0, .ref q68, .ref q76, .null])), (q7, .inl (cA7, 40, .inl (fun _ => 0))), (q15, .inl (cA7, 40, .inl (fun _ => 0))), (q23, .inl (cA7, 40, .inl (fun _ => 0))), (q31, .inl (cA7, 40, .inl (fun _ => 0))), (q39, .inl (cA7, 40, .inl (fun _ => 0))), (q47, .inl (cA7, 24, .inl (fun _ => 0))), (q55, .inl (cA7, 24, .inl (fun _ => 0))), (q68, .inl (cA7, 40, .inl (fun _ => 0))), (q76, .inl (cA7, 40, .inl (fun _ => 0)))]) := hD
  refine lv_aload_n hx hb dM0_init_81 rfl (lv_at hl 0 rfl) ?_
  refine lv_bipush (v := 24) hx hb dM0_init_82 (by decide) ?_
  refine va_newa (atype := .int) (ty := .int) (n := 24) (N' := 24) (a0 := (24, .inl (fun _ => 0))) hx hb (hE.t m_84 rfl) rfl hK hP hD hS hA (ha0 24) (by decide) (by decide) (by show 24 * 4 ≤ 536870912; omega) (by decide) (by show 328 + 24 ≤ 352; omega) dM0_init_84 (fun q84 cA84 H hK hP hD hS => ?_)
  refine W.widen (k := 10) (n := 352) (by omega) (by omega) ?_
  have h9 : cA7 = cA84 := cls_eq hK 0 1 rfl rfl
  subst h9
  have hK : va_K (dC, dI) vwCl [(cA7, .int)] s := hK.sub [0] rfl
  have hP : va_P (dC, dI) vwCl ([(q, .inr (4, [.int 0, .int 0, .ref q7, .ref q15, .ref q23, .ref q31, .ref q39, .int 0, .ref q47, .ref q55, .int (-1), .int 0, .int 0, .long 0, .int 0, .int 0, .int 0, .ref q68, .ref q76, .null])), (q7, .inl (cA7, 40, .inl (fun _ => 0))), (q15, .inl (cA7, 40, .inl (fun _ => 0))), (q23, .inl (cA7, 40, .inl (fun _ => 0))), (q31, .inl (cA7, 40, .inl (fun _ => 0))), (q39, .inl (cA7, 40, .inl (fun _ => 0))), (q47, .inl (cA7, 24, .inl (fun _ => 0))), (q55, .inl (cA7, 24, .inl (fun _ => 0))), (q68, .inl (cA7, 40, .inl (fun _ => 0))), (q76, .inl (cA7, 40, .inl (fun _ => 0))), (q84, .inl (cA7, 24, .inl (fun _ => 0)))]) H := hP
  have hD : va_D A ([(q, .inr (4, [.int 0, .int 0, .ref q7, .ref q15, .ref q23, .ref q31, .ref q39, .int 0, .ref q47, .ref q55, .int (-1), .int 0, .int 0, .long 0, .int 0, .int 0, .int 0, .ref q68, .ref q76, .null])), (q7, .inl (cA7, 40, .inl (fun _ => 0))), (q15, .inl (cA7, 40, .inl (fun _ => 0))), (q23, .inl (cA7, 40, .inl (fun _ => 0))), (q31, .inl (cA7, 40, .inl (fun _ => 0))), (q39, .inl (cA7, 40, .inl (fun _ => 0))), (q47, .inl (cA7, 24, .inl (fun _ => 0))), (q55, .inl (cA7, 24, .inl (fun _ => 0))), (q68, .inl (cA7, 40, .inl (fun _ => 0))), (q76, .inl (cA7, 40, .inl (fun _ => 0))), (q84, .inl (cA7, 24, .inl (fun _ => 0)))]) := hD
  refine va_putF (D := (dC, dI)) (ci := 4) (v := .ref q84) (ty := (.array .int)) (C := RM0) (T := TM0) (N := 20) hx hb hts inM0 tyM0 tyM0_ok nmM0 hown hK hP hD hS 0 rfl rfl 19 (by decide) (hE.t m_446 rfl) (fun _ h9 => h9) rfl hin rfl (by decide +kernel) rfl rfl (Nat.le_of_ble_eq_true rfl) dM0_init_86 (fun H locs hP hD hS => ?_)
  have hP : va_P (dC, dI) vwCl ([(q, .inr (4, [.int 0, .int 0, .ref q7, .ref q15, .ref q23, .ref q31, .ref q39, .int 0, .ref q47, .ref q55, .int (-1), .int 0, .int 0, .long 0, .int 0, .int 0, .int 0, .ref q68, .ref q76, .ref q84])), (q7, .inl (cA7, 40, .inl (fun _ => 0))), (q15, .inl (cA7, 40, .inl (fun _ => 0))), (q23, .inl (cA7, 40, .inl (fun _ => 0))), (q31, .inl (cA7, 40, .inl (fun _ => 0))), (q39, .inl (cA7, 40, .inl (fun _ => 0))), (q47, .inl (cA7, 24, .inl (fun _ => 0))), (q55, .inl (cA7, 24, .inl (fun _ => 0))), (q68, .inl (cA7, 40, .inl (fun _ => 0))), (q76, .inl (cA7, 40, .inl (fun _ => 0))), (q84, .inl (cA7, 24, .inl (fun _ => 0)))]) H := hP
  have hD : va_D A ([(q, .inr (4, [.int 0, .int 0, .ref q7, .ref q15, .ref q23, .ref q31, .ref q39, .int 0, .ref q47, .ref q55, .int (-1), .int 0, .int 0, .long 0, .int 0, .int 0, .int 0, .ref q68, .ref q76, .ref q84])), (q7, .inl (cA7, 40, .inl (fun _ => 0))), (q15, .inl (cA7, 40, .inl (fun _ => 0))), (q23, .inl (cA7, 40, .inl (fun _ => 0))), (q31, .inl (cA7, 40, .inl (fun _ => 0))), (q39, .inl (cA7, 40, .inl (fun _ => 0))), (q47, .inl (cA7, 24, .inl (fun _ => 0))), (q55, .inl (cA7, 24, .inl (fun _ => 0))), (q68, .inl (cA7, 40, .inl (fun _ => 0))), (q76, .inl (cA7, 40, .inl (fun _ => 0))), (q84, .inl (cA7, 24, .inl (fun _ => 0)))]) := hD
  refine lv_aload_n hx hb dM0_init_89 rfl (lv_at hl 0 rfl) ?_
  refine lv_iload_n hx hb dM0_init_90 rfl (lv_at hl 1 rfl) ?_
  refine lv_iconst (v := 1) hx hb dM0_init_91 (by decide) ?_
  refine lv_icmp_ge (tgt := 99) hx hb dM0_init_92 (by decide) (fun c_92 => ?_) (fun c_92 => ?_)
  · skip
    refine lv_iload_n hx hb dM0_init_99 rfl (lv_at hl 1 rfl) ?_
    refine lv_bipush (v := 40) hx hb dM0_init_100 (by decide) ?_
    refine lv_icmp_le (tgt := 110) hx hb dM0_init_102 (by decide) (fun c_102 => ?_) (fun c_102 => ?_)
    · skip
      refine lv_iload_n hx hb dM0_init_110 rfl (lv_at hl 1 rfl) ?_
      have ez : p0 = nI (szN p0) := sz3 c_92 c_102
      refine W.eq (g2 := F0 m 111 ls [.int (nI (szN p0)), .ref q]) (by rw [← ez]) ?_
      refine va_putF (D := (dC, dI)) (ci := 4) (v := .int (nI (szN p0))) (ty := .int) (C := RM0) (T := TM0) (N := 20) hx hb hts inM0 tyM0 tyM0_ok nmM0 hown hK hP hD hS 0 rfl rfl 1 (by decide) (hE.t m_428 rfl) (fun _ h9 => h9) rfl hin rfl (by decide +kernel) rfl rfl (Nat.le_of_ble_eq_true rfl) dM0_init_111 (fun H locs hP hD hS => ?_)
      have hP : va_P (dC, dI) vwCl ([(q, .inr (4, [.int 0, .int (nI (szN p0)), .ref q7, .ref q15, .ref q23, .ref q31, .ref q39, .int 0, .ref q47, .ref q55, .int (-1), .int 0, .int 0, .long 0, .int 0, .int 0, .int 0, .ref q68, .ref q76, .ref q84])), (q7, .inl (cA7, 40, .inl (fun _ => 0))), (q15, .inl (cA7, 40, .inl (fun _ => 0))), (q23, .inl (cA7, 40, .inl (fun _ => 0))), (q31, .inl (cA7, 40, .inl (fun _ => 0))), (q39, .inl (cA7, 40, .inl (fun _ => 0))), (q47, .inl (cA7, 24, .inl (fun _ => 0))), (q55, .inl (cA7, 24, .inl (fun _ => 0))), (q68, .inl (cA7, 40, .inl (fun _ => 0))), (q76, .inl (cA7, 40, .inl (fun _ => 0))), (q84, .inl (cA7, 24, .inl (fun _ => 0)))]) H := hP
      have hD : va_D A ([(q, .inr (4, [.int 0, .int (nI (szN p0)), .ref q7, .ref q15, .ref q23, .ref q31, .ref q39, .int 0, .ref q47, .ref q55, .int (-1), .int 0, .int 0, .long 0, .int 0, .int 0, .int 0, .ref q68, .ref q76, .ref q84])), (q7, .inl (cA7, 40, .inl (fun _ => 0))), (q15, .inl (cA7, 40, .inl (fun _ => 0))), (q23, .inl (cA7, 40, .inl (fun _ => 0))), (q31, .inl (cA7, 40, .inl (fun _ => 0))), (q39, .inl (cA7, 40, .inl (fun _ => 0))), (q47, .inl (cA7, 24, .inl (fun _ => 0))), (q55, .inl (cA7, 24, .inl (fun _ => 0))), (q68, .inl (cA7, 40, .inl (fun _ => 0))), (q76, .inl (cA7, 40, .inl (fun _ => 0))), (q84, .inl (cA7, 24, .inl (fun _ => 0)))]) := hD
      refine lv_iconst (v := 0) hx hb dM0_init_114 (by decide) ?_
      refine lv_istore_n (lv' := [(2, .int 0), (0, .ref q), (1, .int p0)]) hx hb dM0_init_115 rfl hl (by decide) rfl (fun ls hl => ?_)
      have hloop116 : ∀ (fu : Nat) (i : Nat), 40 + 1 ≤ i + fu → i ≤ 40 → ∀ (H : Heap) (locs : List Loc) (ls : Array Slot), va_P (dC, dI) vwCl ([(q, .inr (4, [.int 0, .int (nI (szN p0)), .ref q7, .ref q15, .ref q23, .ref q31, .ref q39, .int 0, .ref q47, .ref q55, .int (-1), .int 0, .int 0, .long 0, .int 0, .int 0, .int 0, .ref q68, .ref q76, .ref q84])), (q7, .inl (cA7, 40, .inl (fil (fun _ => 1) (fun _ => 0) i))), (q15, .inl (cA7, 40, .inl (fun _ => 0))), (q23, .inl (cA7, 40, .inl (fun _ => 0))), (q31, .inl (cA7, 40, .inl (fun _ => 0))), (q39, .inl (cA7, 40, .inl (fun _ => 0))), (q47, .inl (cA7, 24, .inl (fun _ => 0))), (q55, .inl (cA7, 24, .inl (fun _ => 0))), (q68, .inl (cA7, 40, .inl (fun _ => 0))), (q76, .inl (cA7, 40, .inl (fun _ => 0))), (q84, .inl (cA7, 24, .inl (fun _ => 0)))]) H → va_D A ([(q, .inr (4, [.int 0, .int (nI (szN p0)), .ref q7, .ref q15, .ref q23, .ref q31, .ref q39, .int 0, .ref q47, .ref q55, .int (-1), .int 0, .int 0, .long 0, .int 0, .int 0, .int 0, .ref q68, .ref q76, .ref q84])), (q7, .inl (cA7, 40, .inl (fil (fun _ => 1) (fun _ => 0) i))), (q15, .inl (cA7, 40, .inl (fun _ => 0))), (q23, .inl (cA7, 40, .inl (fun _ => 0))), (q31, .inl (cA7, 40, .inl (fun _ => 0))), (q39, .inl (cA7, 40, .inl (fun _ => 0))), (q47, .inl (cA7, 24, .inl (fun _ => 0))), (q55, .inl (cA7, 24, .inl (fun _ => 0))), (q68, .inl (cA7, 40, .inl (fun _ => 0))), (q76, .inl (cA7, 40, .inl (fun _ => 0))), (q84, .inl (cA7, 24, .inl (fun _ => 0)))]) → va_S A s.heap H locs → lv_has ls 3 [(0, .ref q), (1, .int p0), (2, .int (nI i))] → W p l e (headSpec wsM0_init ({ frames := 1, cells := 10, slots := 352, locals := 20 })).room s m ([.ref q, .int p0] : List Value).toArray below meth c H locs 10 352 Z (F0 m 116 ls []) := by
        intro fu
        induction fu with
        | zero =>
          intro i hfu hi
          exact absurd hfu (by omega)
        | succ fu ih116 =>
          intro i hfu hi H locs ls hP hD hS hl
          refine lv_iload_n hx hb dM0_init_116 rfl (lv_at hl 2 rfl) ?_
          refine lv_bipush (v := 40) hx hb dM0_init_117 (by decide) ?_
          refine lv_icmp_ge (tgt := 135) hx hb dM0_init_119 (by decide) (fun c_119 => ?_) (fun c_119 => ?_)
          · skip
            have hie : i = 40 := by
              have h9 := (nI_leI (a := 40) (b := i) (by omega) (by omega)).mp c_119
              omega
            rw [hie] at hP hD hl
            refine lv_iconst (v := 0) hx hb dM0_init_135 (by decide) ?_
            refine lv_istore_n (lv' := [(2, .int 0), (0, .ref q), (1, .int p0)]) hx hb dM0_init_136 rfl hl (by decide) rfl (fun ls hl => ?_)
            have hloop137 : ∀ (fu : Nat) (i : Nat), 24 + 1 ≤ i + fu → i ≤ 24 → ∀ (H : Heap) (locs : List Loc) (ls : Array Slot), va_P (dC, dI) vwCl ([(q, .inr (4, [.int 0, .int (nI (szN p0)), .ref q7, .ref q15, .ref q23, .ref q31, .ref q39, .int 0, .ref q47, .ref q55, .int (-1), .int 0, .int 0, .long 0, .int 0, .int 0, .int 0, .ref q68, .ref q76, .ref q84])), (q7, .inl (cA7, 40, .inl (fil (fun _ => 1) (fun _ => 0) 40))), (q15, .inl (cA7, 40, .inl (fun _ => 0))), (q23, .inl (cA7, 40, .inl (fun _ => 0))), (q31, .inl (cA7, 40, .inl (fun _ => 0))), (q39, .inl (cA7, 40, .inl (fun _ => 0))), (q47, .inl (cA7, 24, .inl (fun _ => 0))), (q55, .inl (cA7, 24, .inl (fun _ => 0))), (q68, .inl (cA7, 40, .inl (fun _ => 0))), (q76, .inl (cA7, 40, .inl (fun _ => 0))), (q84, .inl (cA7, 24, .inl (fil (fun _ => (-1)) (fun _ => 0) i)))]) H → va_D A ([(q, .inr (4, [.int 0, .int (nI (szN p0)), .ref q7, .ref q15, .ref q23, .ref q31, .ref q39, .int 0, .ref q47, .ref q55, .int (-1), .int 0, .int 0, .long 0, .int 0, .int 0, .int 0, .ref q68, .ref q76, .ref q84])), (q7, .inl (cA7, 40, .inl (fil (fun _ => 1) (fun _ => 0) 40))), (q15, .inl (cA7, 40, .inl (fun _ => 0))), (q23, .inl (cA7, 40, .inl (fun _ => 0))), (q31, .inl (cA7, 40, .inl (fun _ => 0))), (q39, .inl (cA7, 40, .inl (fun _ => 0))), (q47, .inl (cA7, 24, .inl (fun _ => 0))), (q55, .inl (cA7, 24, .inl (fun _ => 0))), (q68, .inl (cA7, 40, .inl (fun _ => 0))), (q76, .inl (cA7, 40, .inl (fun _ => 0))), (q84, .inl (cA7, 24, .inl (fil (fun _ => (-1)) (fun _ => 0) i)))]) → va_S A s.heap H locs → lv_has ls 3 [(0, .ref q), (1, .int p0), (2, .int (nI i))] → W p l e (headSpec wsM0_init ({ frames := 1, cells := 10, slots := 352, locals := 20 })).room s m ([.ref q, .int p0] : List Value).toArray below meth c H locs 10 352 Z (F0 m 137 ls []) := by
              intro fu
              induction fu with
              | zero =>
                intro i hfu hi2
                exact absurd hfu (by omega)
              | succ fu ih137 =>
                intro i hfu hi2 H locs ls hP hD hS hl
                refine lv_iload_n hx hb dM0_init_137 rfl (lv_at hl 2 rfl) ?_
                refine lv_bipush (v := 24) hx hb dM0_init_138 (by decide) ?_
                refine lv_icmp_ge (tgt := 156) hx hb dM0_init_140 (by decide) (fun c_140 => ?_) (fun c_140 => ?_)
                · skip
                  have hie : i = 24 := by
                    have h9 := (nI_leI (a := 24) (b := i) (by omega) (by omega)).mp c_140
                    omega
                  rw [hie] at hP hD hl
                  rw [hZ]
                  refine W.widen (k := 10) (n := 352) (by omega) (by omega) ?_
                  exact W.vret hx hb hr (fun t ht hW => ⟨⟨(cA7, fun k => [q, q7, q15, q23, q31, q39, q47, q55, q68, q76, q84].getD k 0), rfl, rfl, by rw [ht]; exact hP, va_K.moved hW.alike hK, hD⟩, hS.F ht⟩) hS.2.2 dM0_init_156
                · skip
                  have hlt : i < 24 := by
                    rcases Nat.lt_or_ge i 24 with h9 | h9
                    · exact h9
                    · exact absurd (show (24 : Int32) ≤ nI i from nI_le (a := 24) h9 (by omega)) c_140
                  refine lv_aload_n hx hb dM0_init_143 rfl (lv_at hl 0 rfl) ?_
                  refine va_get (D := (dC, dI)) (ci := 4) (v := .ref q84) (C := RM0) (T := TM0) (N := 20) hx hb hts inM0 hown hK hP 0 rfl rfl 19 (by decide) (hE.t m_446 rfl) (fun _ h9 => h9) rfl dM0_init_144 ?_
                  refine lv_iload_n hx hb dM0_init_147 rfl (lv_at hl 2 rfl) ?_
                  refine lv_iconst (v := (-1)) hx hb dM0_init_148 (by decide) ?_
                  refine va_iast hx hb hK hP hD hS 10 0 rfl rfl (vp_in_nI (by omega) (by omega)) dM0_init_149 (fun H locs hP hD hS => ?_)
                  rw [nI_clamp (n := i) (by omega)] at hP hD
                  have hP : va_P (dC, dI) vwCl ([(q, .inr (4, [.int 0, .int (nI (szN p0)), .ref q7, .ref q15, .ref q23, .ref q31, .ref q39, .int 0, .ref q47, .ref q55, .int (-1), .int 0, .int 0, .long 0, .int 0, .int 0, .int 0, .ref q68, .ref q76, .ref q84])), (q7, .inl (cA7, 40, .inl (fil (fun _ => 1) (fun _ => 0) 40))), (q15, .inl (cA7, 40, .inl (fun _ => 0))), (q23, .inl (cA7, 40, .inl (fun _ => 0))), (q31, .inl (cA7, 40, .inl (fun _ => 0))), (q39, .inl (cA7, 40, .inl (fun _ => 0))), (q47, .inl (cA7, 24, .inl (fun _ => 0))), (q55, .inl (cA7, 24, .inl (fun _ => 0))), (q68, .inl (cA7, 40, .inl (fun _ => 0))), (q76, .inl (cA7, 40, .inl (fun _ => 0))), (q84, .inl (cA7, 24, .inl (upd (fil (fun _ => (-1)) (fun _ => 0) i) i (-1))))]) H := hP
                  have hD : va_D A ([(q, .inr (4, [.int 0, .int (nI (szN p0)), .ref q7, .ref q15, .ref q23, .ref q31, .ref q39, .int 0, .ref q47, .ref q55, .int (-1), .int 0, .int 0, .long 0, .int 0, .int 0, .int 0, .ref q68, .ref q76, .ref q84])), (q7, .inl (cA7, 40, .inl (fil (fun _ => 1) (fun _ => 0) 40))), (q15, .inl (cA7, 40, .inl (fun _ => 0))), (q23, .inl (cA7, 40, .inl (fun _ => 0))), (q31, .inl (cA7, 40, .inl (fun _ => 0))), (q39, .inl (cA7, 40, .inl (fun _ => 0))), (q47, .inl (cA7, 24, .inl (fun _ => 0))), (q55, .inl (cA7, 24, .inl (fun _ => 0))), (q68, .inl (cA7, 40, .inl (fun _ => 0))), (q76, .inl (cA7, 40, .inl (fun _ => 0))), (q84, .inl (cA7, 24, .inl (upd (fil (fun _ => (-1)) (fun _ => 0) i) i (-1))))]) := hD
                  refine lv_iinc (v := nI (i + 1)) (lv' := [(2, .int (nI (i + 1))), (0, .ref q), (1, .int p0)]) hx hb dM0_init_150 hl (k := 2) rfl (by rw [← nI_1]; rfl) (by decide) rfl (fun ls hl => ?_)
                  refine lv_goto (tgt := 137) hx hb dM0_init_153 (by decide) ?_
                  exact ih137 (i + 1) (by omega) (by omega) _ _ _ hP hD hS (lv_sub hl [1, 2, 0] rfl)
            have hl0 : lv_has ls 3 [(0, .ref q), (1, .int p0), (2, .int (nI 0))] := by
              rw [nI_0]; exact lv_sub hl [1, 2, 0] rfl
            exact hloop137 (24 + 1) 0 (by omega) (by omega) _ _ _ hP hD hS hl0
          · skip
            have hlt : i < 40 := by
              rcases Nat.lt_or_ge i 40 with h9 | h9
              · exact h9
              · exact absurd (show (40 : Int32) ≤ nI i from nI_le (a := 40) h9 (by omega)) c_119
            refine lv_aload_n hx hb dM0_init_122 rfl (lv_at hl 0 rfl) ?_
            refine va_get (D := (dC, dI)) (ci := 4) (v := .ref q7) (C := RM0) (T := TM0) (N := 20) hx hb hts inM0 hown hK hP 0 rfl rfl 2 (by decide) (hE.t m_429 rfl) (fun _ h9 => h9) rfl dM0_init_123 ?_
            refine lv_iload_n hx hb dM0_init_126 rfl (lv_at hl 2 rfl) ?_
            refine lv_iconst (v := 1) hx hb dM0_init_127 (by decide) ?_
            refine va_iast hx hb hK hP hD hS 1 0 rfl rfl (vp_in_nI (by omega) (by omega)) dM0_init_128 (fun H locs hP hD hS => ?_)
            rw [nI_clamp (n := i) (by omega)] at hP hD
            have hP : va_P (dC, dI) vwCl ([(q, .inr (4, [.int 0, .int (nI (szN p0)), .ref q7, .ref q15, .ref q23, .ref q31, .ref q39, .int 0, .ref q47, .ref q55, .int (-1), .int 0, .int 0, .long 0, .int 0, .int 0, .int 0, .ref q68, .ref q76, .ref q84])), (q7, .inl (cA7, 40, .inl (upd (fil (fun _ => 1) (fun _ => 0) i) i 1))), (q15, .inl (cA7, 40, .inl (fun _ => 0))), (q23, .inl (cA7, 40, .inl (fun _ => 0))), (q31, .inl (cA7, 40, .inl (fun _ => 0))), (q39, .inl (cA7, 40, .inl (fun _ => 0))), (q47, .inl (cA7, 24, .inl (fun _ => 0))), (q55, .inl (cA7, 24, .inl (fun _ => 0))), (q68, .inl (cA7, 40, .inl (fun _ => 0))), (q76, .inl (cA7, 40, .inl (fun _ => 0))), (q84, .inl (cA7, 24, .inl (fun _ => 0)))]) H := hP
            have hD : va_D A ([(q, .inr (4, [.int 0, .int (nI (szN p0)), .ref q7, .ref q15, .ref q23, .ref q31, .ref q39, .int 0, .ref q47, .ref q55, .int (-1), .int 0, .int 0, .long 0, .int 0, .int 0, .int 0, .ref q68, .ref q76, .ref q84])), (q7, .inl (cA7, 40, .inl (upd (fil (fun _ => 1) (fun _ => 0) i) i 1))), (q15, .inl (cA7, 40, .inl (fun _ => 0))), (q23, .inl (cA7, 40, .inl (fun _ => 0))), (q31, .inl (cA7, 40, .inl (fun _ => 0))), (q39, .inl (cA7, 40, .inl (fun _ => 0))), (q47, .inl (cA7, 24, .inl (fun _ => 0))), (q55, .inl (cA7, 24, .inl (fun _ => 0))), (q68, .inl (cA7, 40, .inl (fun _ => 0))), (q76, .inl (cA7, 40, .inl (fun _ => 0))), (q84, .inl (cA7, 24, .inl (fun _ => 0)))]) := hD
            refine lv_iinc (v := nI (i + 1)) (lv' := [(2, .int (nI (i + 1))), (0, .ref q), (1, .int p0)]) hx hb dM0_init_129 hl (k := 2) rfl (by rw [← nI_1]; rfl) (by decide) rfl (fun ls hl => ?_)
            refine lv_goto (tgt := 116) hx hb dM0_init_132 (by decide) ?_
            exact ih116 (i + 1) (by omega) (by omega) _ _ _ hP hD hS (lv_sub hl [1, 2, 0] rfl)
      have hl0 : lv_has ls 3 [(0, .ref q), (1, .int p0), (2, .int (nI 0))] := by
        rw [nI_0]; exact lv_sub hl [1, 2, 0] rfl
      exact hloop116 (40 + 1) 0 (by omega) (by omega) _ _ _ hP hD hS hl0
    · skip
      refine lv_bipush (v := 40) hx hb dM0_init_105 (by decide) ?_
      refine lv_goto (tgt := 111) hx hb dM0_init_107 (by decide) ?_
      have ez : (40 : Int32) = nI (szN p0) := sz2 c_92 c_102
      refine W.eq (g2 := F0 m 111 ls [.int (nI (szN p0)), .ref q]) (by rw [← ez]) ?_
      refine va_putF (D := (dC, dI)) (ci := 4) (v := .int (nI (szN p0))) (ty := .int) (C := RM0) (T := TM0) (N := 20) hx hb hts inM0 tyM0 tyM0_ok nmM0 hown hK hP hD hS 0 rfl rfl 1 (by decide) (hE.t m_428 rfl) (fun _ h9 => h9) rfl hin rfl (by decide +kernel) rfl rfl (Nat.le_of_ble_eq_true rfl) dM0_init_111 (fun H locs hP hD hS => ?_)
      have hP : va_P (dC, dI) vwCl ([(q, .inr (4, [.int 0, .int (nI (szN p0)), .ref q7, .ref q15, .ref q23, .ref q31, .ref q39, .int 0, .ref q47, .ref q55, .int (-1), .int 0, .int 0, .long 0, .int 0, .int 0, .int 0, .ref q68, .ref q76, .ref q84])), (q7, .inl (cA7, 40, .inl (fun _ => 0))), (q15, .inl (cA7, 40, .inl (fun _ => 0))), (q23, .inl (cA7, 40, .inl (fun _ => 0))), (q31, .inl (cA7, 40, .inl (fun _ => 0))), (q39, .inl (cA7, 40, .inl (fun _ => 0))), (q47, .inl (cA7, 24, .inl (fun _ => 0))), (q55, .inl (cA7, 24, .inl (fun _ => 0))), (q68, .inl (cA7, 40, .inl (fun _ => 0))), (q76, .inl (cA7, 40, .inl (fun _ => 0))), (q84, .inl (cA7, 24, .inl (fun _ => 0)))]) H := hP
      have hD : va_D A ([(q, .inr (4, [.int 0, .int (nI (szN p0)), .ref q7, .ref q15, .ref q23, .ref q31, .ref q39, .int 0, .ref q47, .ref q55, .int (-1), .int 0, .int 0, .long 0, .int 0, .int 0, .int 0, .ref q68, .ref q76, .ref q84])), (q7, .inl (cA7, 40, .inl (fun _ => 0))), (q15, .inl (cA7, 40, .inl (fun _ => 0))), (q23, .inl (cA7, 40, .inl (fun _ => 0))), (q31, .inl (cA7, 40, .inl (fun _ => 0))), (q39, .inl (cA7, 40, .inl (fun _ => 0))), (q47, .inl (cA7, 24, .inl (fun _ => 0))), (q55, .inl (cA7, 24, .inl (fun _ => 0))), (q68, .inl (cA7, 40, .inl (fun _ => 0))), (q76, .inl (cA7, 40, .inl (fun _ => 0))), (q84, .inl (cA7, 24, .inl (fun _ => 0)))]) := hD
      refine lv_iconst (v := 0) hx hb dM0_init_114 (by decide) ?_
      refine lv_istore_n (lv' := [(2, .int 0), (0, .ref q), (1, .int p0)]) hx hb dM0_init_115 rfl hl (by decide) rfl (fun ls hl => ?_)
      have hloop116 : ∀ (fu : Nat) (i : Nat), 40 + 1 ≤ i + fu → i ≤ 40 → ∀ (H : Heap) (locs : List Loc) (ls : Array Slot), va_P (dC, dI) vwCl ([(q, .inr (4, [.int 0, .int (nI (szN p0)), .ref q7, .ref q15, .ref q23, .ref q31, .ref q39, .int 0, .ref q47, .ref q55, .int (-1), .int 0, .int 0, .long 0, .int 0, .int 0, .int 0, .ref q68, .ref q76, .ref q84])), (q7, .inl (cA7, 40, .inl (fil (fun _ => 1) (fun _ => 0) i))), (q15, .inl (cA7, 40, .inl (fun _ => 0))), (q23, .inl (cA7, 40, .inl (fun _ => 0))), (q31, .inl (cA7, 40, .inl (fun _ => 0))), (q39, .inl (cA7, 40, .inl (fun _ => 0))), (q47, .inl (cA7, 24, .inl (fun _ => 0))), (q55, .inl (cA7, 24, .inl (fun _ => 0))), (q68, .inl (cA7, 40, .inl (fun _ => 0))), (q76, .inl (cA7, 40, .inl (fun _ => 0))), (q84, .inl (cA7, 24, .inl (fun _ => 0)))]) H → va_D A ([(q, .inr (4, [.int 0, .int (nI (szN p0)), .ref q7, .ref q15, .ref q23, .ref q31, .ref q39, .int 0, .ref q47, .ref q55, .int (-1), .int 0, .int 0, .long 0, .int 0, .int 0, .int 0, .ref q68, .ref q76, .ref q84])), (q7, .inl (cA7, 40, .inl (fil (fun _ => 1) (fun _ => 0) i))), (q15, .inl (cA7, 40, .inl (fun _ => 0))), (q23, .inl (cA7, 40, .inl (fun _ => 0))), (q31, .inl (cA7, 40, .inl (fun _ => 0))), (q39, .inl (cA7, 40, .inl (fun _ => 0))), (q47, .inl (cA7, 24, .inl (fun _ => 0))), (q55, .inl (cA7, 24, .inl (fun _ => 0))), (q68, .inl (cA7, 40, .inl (fun _ => 0))), (q76, .inl (cA7, 40, .inl (fun _ => 0))), (q84, .inl (cA7, 24, .inl (fun _ => 0)))]) → va_S A s.heap H locs → lv_has ls 3 [(0, .ref q), (1, .int p0), (2, .int (nI i))] → W p l e (headSpec wsM0_init ({ frames := 1, cells := 10, slots := 352, locals := 20 })).room s m ([.ref q, .int p0] : List Value).toArray below meth c H locs 10 352 Z (F0 m 116 ls []) := by
        intro fu
        induction fu with
        | zero =>
          intro i hfu hi
          exact absurd hfu (by omega)
        | succ fu ih116 =>
          intro i hfu hi H locs ls hP hD hS hl
          refine lv_iload_n hx hb dM0_init_116 rfl (lv_at hl 2 rfl) ?_
          refine lv_bipush (v := 40) hx hb dM0_init_117 (by decide) ?_
          refine lv_icmp_ge (tgt := 135) hx hb dM0_init_119 (by decide) (fun c_119 => ?_) (fun c_119 => ?_)
          · skip
            have hie : i = 40 := by
              have h9 := (nI_leI (a := 40) (b := i) (by omega) (by omega)).mp c_119
              omega
            rw [hie] at hP hD hl
            refine lv_iconst (v := 0) hx hb dM0_init_135 (by decide) ?_
            refine lv_istore_n (lv' := [(2, .int 0), (0, .ref q), (1, .int p0)]) hx hb dM0_init_136 rfl hl (by decide) rfl (fun ls hl => ?_)
            have hloop137 : ∀ (fu : Nat) (i : Nat), 24 + 1 ≤ i + fu → i ≤ 24 → ∀ (H : Heap) (locs : List Loc) (ls : Array Slot), va_P (dC, dI) vwCl ([(q, .inr (4, [.int 0, .int (nI (szN p0)), .ref q7, .ref q15, .ref q23, .ref q31, .ref q39, .int 0, .ref q47, .ref q55, .int (-1), .int 0, .int 0, .long 0, .int 0, .int 0, .int 0, .ref q68, .ref q76, .ref q84])), (q7, .inl (cA7, 40, .inl (fil (fun _ => 1) (fun _ => 0) 40))), (q15, .inl (cA7, 40, .inl (fun _ => 0))), (q23, .inl (cA7, 40, .inl (fun _ => 0))), (q31, .inl (cA7, 40, .inl (fun _ => 0))), (q39, .inl (cA7, 40, .inl (fun _ => 0))), (q47, .inl (cA7, 24, .inl (fun _ => 0))), (q55, .inl (cA7, 24, .inl (fun _ => 0))), (q68, .inl (cA7, 40, .inl (fun _ => 0))), (q76, .inl (cA7, 40, .inl (fun _ => 0))), (q84, .inl (cA7, 24, .inl (fil (fun _ => (-1)) (fun _ => 0) i)))]) H → va_D A ([(q, .inr (4, [.int 0, .int (nI (szN p0)), .ref q7, .ref q15, .ref q23, .ref q31, .ref q39, .int 0, .ref q47, .ref q55, .int (-1), .int 0, .int 0, .long 0, .int 0, .int 0, .int 0, .ref q68, .ref q76, .ref q84])), (q7, .inl (cA7, 40, .inl (fil (fun _ => 1) (fun _ => 0) 40))), (q15, .inl (cA7, 40, .inl (fun _ => 0))), (q23, .inl (cA7, 40, .inl (fun _ => 0))), (q31, .inl (cA7, 40, .inl (fun _ => 0))), (q39, .inl (cA7, 40, .inl (fun _ => 0))), (q47, .inl (cA7, 24, .inl (fun _ => 0))), (q55, .inl (cA7, 24, .inl (fun _ => 0))), (q68, .inl (cA7, 40, .inl (fun _ => 0))), (q76, .inl (cA7, 40, .inl (fun _ => 0))), (q84, .inl (cA7, 24, .inl (fil (fun _ => (-1)) (fun _ => 0) i)))]) → va_S A s.heap H locs → lv_has ls 3 [(0, .ref q), (1, .int p0), (2, .int (nI i))] → W p l e (headSpec wsM0_init ({ frames := 1, cells := 10, slots := 352, locals := 20 })).room s m ([.ref q, .int p0] : List Value).toArray below meth c H locs 10 352 Z (F0 m 137 ls []) := by
              intro fu
              induction fu with
              | zero =>
                intro i hfu hi2
                exact absurd hfu (by omega)
              | succ fu ih137 =>
                intro i hfu hi2 H locs ls hP hD hS hl
                refine lv_iload_n hx hb dM0_init_137 rfl (lv_at hl 2 rfl) ?_
                refine lv_bipush (v := 24) hx hb dM0_init_138 (by decide) ?_
                refine lv_icmp_ge (tgt := 156) hx hb dM0_init_140 (by decide) (fun c_140 => ?_) (fun c_140 => ?_)
                · skip
                  have hie : i = 24 := by
                    have h9 := (nI_leI (a := 24) (b := i) (by omega) (by omega)).mp c_140
                    omega
                  rw [hie] at hP hD hl
                  rw [hZ]
                  refine W.widen (k := 10) (n := 352) (by omega) (by omega) ?_
                  exact W.vret hx hb hr (fun t ht hW => ⟨⟨(cA7, fun k => [q, q7, q15, q23, q31, q39, q47, q55, q68, q76, q84].getD k 0), rfl, rfl, by rw [ht]; exact hP, va_K.moved hW.alike hK, hD⟩, hS.F ht⟩) hS.2.2 dM0_init_156
                · skip
                  have hlt : i < 24 := by
                    rcases Nat.lt_or_ge i 24 with h9 | h9
                    · exact h9
                    · exact absurd (show (24 : Int32) ≤ nI i from nI_le (a := 24) h9 (by omega)) c_140
                  refine lv_aload_n hx hb dM0_init_143 rfl (lv_at hl 0 rfl) ?_
                  refine va_get (D := (dC, dI)) (ci := 4) (v := .ref q84) (C := RM0) (T := TM0) (N := 20) hx hb hts inM0 hown hK hP 0 rfl rfl 19 (by decide) (hE.t m_446 rfl) (fun _ h9 => h9) rfl dM0_init_144 ?_
                  refine lv_iload_n hx hb dM0_init_147 rfl (lv_at hl 2 rfl) ?_
                  refine lv_iconst (v := (-1)) hx hb dM0_init_148 (by decide) ?_
                  refine va_iast hx hb hK hP hD hS 10 0 rfl rfl (vp_in_nI (by omega) (by omega)) dM0_init_149 (fun H locs hP hD hS => ?_)
                  rw [nI_clamp (n := i) (by omega)] at hP hD
                  have hP : va_P (dC, dI) vwCl ([(q, .inr (4, [.int 0, .int (nI (szN p0)), .ref q7, .ref q15, .ref q23, .ref q31, .ref q39, .int 0, .ref q47, .ref q55, .int (-1), .int 0, .int 0, .long 0, .int 0, .int 0, .int 0, .ref q68, .ref q76, .ref q84])), (q7, .inl (cA7, 40, .inl (fil (fun _ => 1) (fun _ => 0) 40))), (q15, .inl (cA7, 40, .inl (fun _ => 0))), (q23, .inl (cA7, 40, .inl (fun _ => 0))), (q31, .inl (cA7, 40, .inl (fun _ => 0))), (q39, .inl (cA7, 40, .inl (fun _ => 0))), (q47, .inl (cA7, 24, .inl (fun _ => 0))), (q55, .inl (cA7, 24, .inl (fun _ => 0))), (q68, .inl (cA7, 40, .inl (fun _ => 0))), (q76, .inl (cA7, 40, .inl (fun _ => 0))), (q84, .inl (cA7, 24, .inl (upd (fil (fun _ => (-1)) (fun _ => 0) i) i (-1))))]) H := hP
                  have hD : va_D A ([(q, .inr (4, [.int 0, .int (nI (szN p0)), .ref q7, .ref q15, .ref q23, .ref q31, .ref q39, .int 0, .ref q47, .ref q55, .int (-1), .int 0, .int 0, .long 0, .int 0, .int 0, .int 0, .ref q68, .ref q76, .ref q84])), (q7, .inl (cA7, 40, .inl (fil (fun _ => 1) (fun _ => 0) 40))), (q15, .inl (cA7, 40, .inl (fun _ => 0))), (q23, .inl (cA7, 40, .inl (fun _ => 0))), (q31, .inl (cA7, 40, .inl (fun _ => 0))), (q39, .inl (cA7, 40, .inl (fun _ => 0))), (q47, .inl (cA7, 24, .inl (fun _ => 0))), (q55, .inl (cA7, 24, .inl (fun _ => 0))), (q68, .inl (cA7, 40, .inl (fun _ => 0))), (q76, .inl (cA7, 40, .inl (fun _ => 0))), (q84, .inl (cA7, 24, .inl (upd (fil (fun _ => (-1)) (fun _ => 0) i) i (-1))))]) := hD
                  refine lv_iinc (v := nI (i + 1)) (lv' := [(2, .int (nI (i + 1))), (0, .ref q), (1, .int p0)]) hx hb dM0_init_150 hl (k := 2) rfl (by rw [← nI_1]; rfl) (by decide) rfl (fun ls hl => ?_)
                  refine lv_goto (tgt := 137) hx hb dM0_init_153 (by decide) ?_
                  exact ih137 (i + 1) (by omega) (by omega) _ _ _ hP hD hS (lv_sub hl [1, 2, 0] rfl)
            have hl0 : lv_has ls 3 [(0, .ref q), (1, .int p0), (2, .int (nI 0))] := by
              rw [nI_0]; exact lv_sub hl [1, 2, 0] rfl
            exact hloop137 (24 + 1) 0 (by omega) (by omega) _ _ _ hP hD hS hl0
          · skip
            have hlt : i < 40 := by
              rcases Nat.lt_or_ge i 40 with h9 | h9
              · exact h9
              · exact absurd (show (40 : Int32) ≤ nI i from nI_le (a := 40) h9 (by omega)) c_119
            refine lv_aload_n hx hb dM0_init_122 rfl (lv_at hl 0 rfl) ?_
            refine va_get (D := (dC, dI)) (ci := 4) (v := .ref q7) (C := RM0) (T := TM0) (N := 20) hx hb hts inM0 hown hK hP 0 rfl rfl 2 (by decide) (hE.t m_429 rfl) (fun _ h9 => h9) rfl dM0_init_123 ?_
            refine lv_iload_n hx hb dM0_init_126 rfl (lv_at hl 2 rfl) ?_
            refine lv_iconst (v := 1) hx hb dM0_init_127 (by decide) ?_
            refine va_iast hx hb hK hP hD hS 1 0 rfl rfl (vp_in_nI (by omega) (by omega)) dM0_init_128 (fun H locs hP hD hS => ?_)
            rw [nI_clamp (n := i) (by omega)] at hP hD
            have hP : va_P (dC, dI) vwCl ([(q, .inr (4, [.int 0, .int (nI (szN p0)), .ref q7, .ref q15, .ref q23, .ref q31, .ref q39, .int 0, .ref q47, .ref q55, .int (-1), .int 0, .int 0, .long 0, .int 0, .int 0, .int 0, .ref q68, .ref q76, .ref q84])), (q7, .inl (cA7, 40, .inl (upd (fil (fun _ => 1) (fun _ => 0) i) i 1))), (q15, .inl (cA7, 40, .inl (fun _ => 0))), (q23, .inl (cA7, 40, .inl (fun _ => 0))), (q31, .inl (cA7, 40, .inl (fun _ => 0))), (q39, .inl (cA7, 40, .inl (fun _ => 0))), (q47, .inl (cA7, 24, .inl (fun _ => 0))), (q55, .inl (cA7, 24, .inl (fun _ => 0))), (q68, .inl (cA7, 40, .inl (fun _ => 0))), (q76, .inl (cA7, 40, .inl (fun _ => 0))), (q84, .inl (cA7, 24, .inl (fun _ => 0)))]) H := hP
            have hD : va_D A ([(q, .inr (4, [.int 0, .int (nI (szN p0)), .ref q7, .ref q15, .ref q23, .ref q31, .ref q39, .int 0, .ref q47, .ref q55, .int (-1), .int 0, .int 0, .long 0, .int 0, .int 0, .int 0, .ref q68, .ref q76, .ref q84])), (q7, .inl (cA7, 40, .inl (upd (fil (fun _ => 1) (fun _ => 0) i) i 1))), (q15, .inl (cA7, 40, .inl (fun _ => 0))), (q23, .inl (cA7, 40, .inl (fun _ => 0))), (q31, .inl (cA7, 40, .inl (fun _ => 0))), (q39, .inl (cA7, 40, .inl (fun _ => 0))), (q47, .inl (cA7, 24, .inl (fun _ => 0))), (q55, .inl (cA7, 24, .inl (fun _ => 0))), (q68, .inl (cA7, 40, .inl (fun _ => 0))), (q76, .inl (cA7, 40, .inl (fun _ => 0))), (q84, .inl (cA7, 24, .inl (fun _ => 0)))]) := hD
            refine lv_iinc (v := nI (i + 1)) (lv' := [(2, .int (nI (i + 1))), (0, .ref q), (1, .int p0)]) hx hb dM0_init_129 hl (k := 2) rfl (by rw [← nI_1]; rfl) (by decide) rfl (fun ls hl => ?_)
            refine lv_goto (tgt := 116) hx hb dM0_init_132 (by decide) ?_
            exact ih116 (i + 1) (by omega) (by omega) _ _ _ hP hD hS (lv_sub hl [1, 2, 0] rfl)
      have hl0 : lv_has ls 3 [(0, .ref q), (1, .int p0), (2, .int (nI 0))] := by
        rw [nI_0]; exact lv_sub hl [1, 2, 0] rfl
      exact hloop116 (40 + 1) 0 (by omega) (by omega) _ _ _ hP hD hS hl0
  · skip
    refine lv_iconst (v := 1) hx hb dM0_init_95 (by decide) ?_
    refine lv_goto (tgt := 111) hx hb dM0_init_96 (by decide) ?_
    have ez : (1 : Int32) = nI (szN p0) := sz1 c_92
    refine W.eq (g2 := F0 m 111 ls [.int (nI (szN p0)), .ref q]) (by rw [← ez]) ?_
    refine va_putF (D := (dC, dI)) (ci := 4) (v := .int (nI (szN p0))) (ty := .int) (C := RM0) (T := TM0) (N := 20) hx hb hts inM0 tyM0 tyM0_ok nmM0 hown hK hP hD hS 0 rfl rfl 1 (by decide) (hE.t m_428 rfl) (fun _ h9 => h9) rfl hin rfl (by decide +kernel) rfl rfl (Nat.le_of_ble_eq_true rfl) dM0_init_111 (fun H locs hP hD hS => ?_)
    have hP : va_P (dC, dI) vwCl ([(q, .inr (4, [.int 0, .int (nI (szN p0)), .ref q7, .ref q15, .ref q23, .ref q31, .ref q39, .int 0, .ref q47, .ref q55, .int (-1), .int 0, .int 0, .long 0, .int 0, .int 0, .int 0, .ref q68, .ref q76, .ref q84])), (q7, .inl (cA7, 40, .inl (fun _ => 0))), (q15, .inl (cA7, 40, .inl (fun _ => 0))), (q23, .inl (cA7, 40, .inl (fun _ => 0))), (q31, .inl (cA7, 40, .inl (fun _ => 0))), (q39, .inl (cA7, 40, .inl (fun _ => 0))), (q47, .inl (cA7, 24, .inl (fun _ => 0))), (q55, .inl (cA7, 24, .inl (fun _ => 0))), (q68, .inl (cA7, 40, .inl (fun _ => 0))), (q76, .inl (cA7, 40, .inl (fun _ => 0))), (q84, .inl (cA7, 24, .inl (fun _ => 0)))]) H := hP
    have hD : va_D A ([(q, .inr (4, [.int 0, .int (nI (szN p0)), .ref q7, .ref q15, .ref q23, .ref q31, .ref q39, .int 0, .ref q47, .ref q55, .int (-1), .int 0, .int 0, .long 0, .int 0, .int 0, .int 0, .ref q68, .ref q76, .ref q84])), (q7, .inl (cA7, 40, .inl (fun _ => 0))), (q15, .inl (cA7, 40, .inl (fun _ => 0))), (q23, .inl (cA7, 40, .inl (fun _ => 0))), (q31, .inl (cA7, 40, .inl (fun _ => 0))), (q39, .inl (cA7, 40, .inl (fun _ => 0))), (q47, .inl (cA7, 24, .inl (fun _ => 0))), (q55, .inl (cA7, 24, .inl (fun _ => 0))), (q68, .inl (cA7, 40, .inl (fun _ => 0))), (q76, .inl (cA7, 40, .inl (fun _ => 0))), (q84, .inl (cA7, 24, .inl (fun _ => 0)))]) := hD
    refine lv_iconst (v := 0) hx hb dM0_init_114 (by decide) ?_
    refine lv_istore_n (lv' := [(2, .int 0), (0, .ref q), (1, .int p0)]) hx hb dM0_init_115 rfl hl (by decide) rfl (fun ls hl => ?_)
    have hloop116 : ∀ (fu : Nat) (i : Nat), 40 + 1 ≤ i + fu → i ≤ 40 → ∀ (H : Heap) (locs : List Loc) (ls : Array Slot), va_P (dC, dI) vwCl ([(q, .inr (4, [.int 0, .int (nI (szN p0)), .ref q7, .ref q15, .ref q23, .ref q31, .ref q39, .int 0, .ref q47, .ref q55, .int (-1), .int 0, .int 0, .long 0, .int 0, .int 0, .int 0, .ref q68, .ref q76, .ref q84])), (q7, .inl (cA7, 40, .inl (fil (fun _ => 1) (fun _ => 0) i))), (q15, .inl (cA7, 40, .inl (fun _ => 0))), (q23, .inl (cA7, 40, .inl (fun _ => 0))), (q31, .inl (cA7, 40, .inl (fun _ => 0))), (q39, .inl (cA7, 40, .inl (fun _ => 0))), (q47, .inl (cA7, 24, .inl (fun _ => 0))), (q55, .inl (cA7, 24, .inl (fun _ => 0))), (q68, .inl (cA7, 40, .inl (fun _ => 0))), (q76, .inl (cA7, 40, .inl (fun _ => 0))), (q84, .inl (cA7, 24, .inl (fun _ => 0)))]) H → va_D A ([(q, .inr (4, [.int 0, .int (nI (szN p0)), .ref q7, .ref q15, .ref q23, .ref q31, .ref q39, .int 0, .ref q47, .ref q55, .int (-1), .int 0, .int 0, .long 0, .int 0, .int 0, .int 0, .ref q68, .ref q76, .ref q84])), (q7, .inl (cA7, 40, .inl (fil (fun _ => 1) (fun _ => 0) i))), (q15, .inl (cA7, 40, .inl (fun _ => 0))), (q23, .inl (cA7, 40, .inl (fun _ => 0))), (q31, .inl (cA7, 40, .inl (fun _ => 0))), (q39, .inl (cA7, 40, .inl (fun _ => 0))), (q47, .inl (cA7, 24, .inl (fun _ => 0))), (q55, .inl (cA7, 24, .inl (fun _ => 0))), (q68, .inl (cA7, 40, .inl (fun _ => 0))), (q76, .inl (cA7, 40, .inl (fun _ => 0))), (q84, .inl (cA7, 24, .inl (fun _ => 0)))]) → va_S A s.heap H locs → lv_has ls 3 [(0, .ref q), (1, .int p0), (2, .int (nI i))] → W p l e (headSpec wsM0_init ({ frames := 1, cells := 10, slots := 352, locals := 20 })).room s m ([.ref q, .int p0] : List Value).toArray below meth c H locs 10 352 Z (F0 m 116 ls []) := by
      intro fu
      induction fu with
      | zero =>
        intro i hfu hi
        exact absurd hfu (by omega)
      | succ fu ih116 =>
        intro i hfu hi H locs ls hP hD hS hl
        refine lv_iload_n hx hb dM0_init_116 rfl (lv_at hl 2 rfl) ?_
        refine lv_bipush (v := 40) hx hb dM0_init_117 (by decide) ?_
        refine lv_icmp_ge (tgt := 135) hx hb dM0_init_119 (by decide) (fun c_119 => ?_) (fun c_119 => ?_)
        · skip
          have hie : i = 40 := by
            have h9 := (nI_leI (a := 40) (b := i) (by omega) (by omega)).mp c_119
            omega
          rw [hie] at hP hD hl
          refine lv_iconst (v := 0) hx hb dM0_init_135 (by decide) ?_
          refine lv_istore_n (lv' := [(2, .int 0), (0, .ref q), (1, .int p0)]) hx hb dM0_init_136 rfl hl (by decide) rfl (fun ls hl => ?_)
          have hloop137 : ∀ (fu : Nat) (i : Nat), 24 + 1 ≤ i + fu → i ≤ 24 → ∀ (H : Heap) (locs : List Loc) (ls : Array Slot), va_P (dC, dI) vwCl ([(q, .inr (4, [.int 0, .int (nI (szN p0)), .ref q7, .ref q15, .ref q23, .ref q31, .ref q39, .int 0, .ref q47, .ref q55, .int (-1), .int 0, .int 0, .long 0, .int 0, .int 0, .int 0, .ref q68, .ref q76, .ref q84])), (q7, .inl (cA7, 40, .inl (fil (fun _ => 1) (fun _ => 0) 40))), (q15, .inl (cA7, 40, .inl (fun _ => 0))), (q23, .inl (cA7, 40, .inl (fun _ => 0))), (q31, .inl (cA7, 40, .inl (fun _ => 0))), (q39, .inl (cA7, 40, .inl (fun _ => 0))), (q47, .inl (cA7, 24, .inl (fun _ => 0))), (q55, .inl (cA7, 24, .inl (fun _ => 0))), (q68, .inl (cA7, 40, .inl (fun _ => 0))), (q76, .inl (cA7, 40, .inl (fun _ => 0))), (q84, .inl (cA7, 24, .inl (fil (fun _ => (-1)) (fun _ => 0) i)))]) H → va_D A ([(q, .inr (4, [.int 0, .int (nI (szN p0)), .ref q7, .ref q15, .ref q23, .ref q31, .ref q39, .int 0, .ref q47, .ref q55, .int (-1), .int 0, .int 0, .long 0, .int 0, .int 0, .int 0, .ref q68, .ref q76, .ref q84])), (q7, .inl (cA7, 40, .inl (fil (fun _ => 1) (fun _ => 0) 40))), (q15, .inl (cA7, 40, .inl (fun _ => 0))), (q23, .inl (cA7, 40, .inl (fun _ => 0))), (q31, .inl (cA7, 40, .inl (fun _ => 0))), (q39, .inl (cA7, 40, .inl (fun _ => 0))), (q47, .inl (cA7, 24, .inl (fun _ => 0))), (q55, .inl (cA7, 24, .inl (fun _ => 0))), (q68, .inl (cA7, 40, .inl (fun _ => 0))), (q76, .inl (cA7, 40, .inl (fun _ => 0))), (q84, .inl (cA7, 24, .inl (fil (fun _ => (-1)) (fun _ => 0) i)))]) → va_S A s.heap H locs → lv_has ls 3 [(0, .ref q), (1, .int p0), (2, .int (nI i))] → W p l e (headSpec wsM0_init ({ frames := 1, cells := 10, slots := 352, locals := 20 })).room s m ([.ref q, .int p0] : List Value).toArray below meth c H locs 10 352 Z (F0 m 137 ls []) := by
            intro fu
            induction fu with
            | zero =>
              intro i hfu hi2
              exact absurd hfu (by omega)
            | succ fu ih137 =>
              intro i hfu hi2 H locs ls hP hD hS hl
              refine lv_iload_n hx hb dM0_init_137 rfl (lv_at hl 2 rfl) ?_
              refine lv_bipush (v := 24) hx hb dM0_init_138 (by decide) ?_
              refine lv_icmp_ge (tgt := 156) hx hb dM0_init_140 (by decide) (fun c_140 => ?_) (fun c_140 => ?_)
              · skip
                have hie : i = 24 := by
                  have h9 := (nI_leI (a := 24) (b := i) (by omega) (by omega)).mp c_140
                  omega
                rw [hie] at hP hD hl
                rw [hZ]
                refine W.widen (k := 10) (n := 352) (by omega) (by omega) ?_
                exact W.vret hx hb hr (fun t ht hW => ⟨⟨(cA7, fun k => [q, q7, q15, q23, q31, q39, q47, q55, q68, q76, q84].getD k 0), rfl, rfl, by rw [ht]; exact hP, va_K.moved hW.alike hK, hD⟩, hS.F ht⟩) hS.2.2 dM0_init_156
              · skip
                have hlt : i < 24 := by
                  rcases Nat.lt_or_ge i 24 with h9 | h9
                  · exact h9
                  · exact absurd (show (24 : Int32) ≤ nI i from nI_le (a := 24) h9 (by omega)) c_140
                refine lv_aload_n hx hb dM0_init_143 rfl (lv_at hl 0 rfl) ?_
                refine va_get (D := (dC, dI)) (ci := 4) (v := .ref q84) (C := RM0) (T := TM0) (N := 20) hx hb hts inM0 hown hK hP 0 rfl rfl 19 (by decide) (hE.t m_446 rfl) (fun _ h9 => h9) rfl dM0_init_144 ?_
                refine lv_iload_n hx hb dM0_init_147 rfl (lv_at hl 2 rfl) ?_
                refine lv_iconst (v := (-1)) hx hb dM0_init_148 (by decide) ?_
                refine va_iast hx hb hK hP hD hS 10 0 rfl rfl (vp_in_nI (by omega) (by omega)) dM0_init_149 (fun H locs hP hD hS => ?_)
                rw [nI_clamp (n := i) (by omega)] at hP hD
                have hP : va_P (dC, dI) vwCl ([(q, .inr (4, [.int 0, .int (nI (szN p0)), .ref q7, .ref q15, .ref q23, .ref q31, .ref q39, .int 0, .ref q47, .ref q55, .int (-1), .int 0, .int 0, .long 0, .int 0, .int 0, .int 0, .ref q68, .ref q76, .ref q84])), (q7, .inl (cA7, 40, .inl (fil (fun _ => 1) (fun _ => 0) 40))), (q15, .inl (cA7, 40, .inl (fun _ => 0))), (q23, .inl (cA7, 40, .inl (fun _ => 0))), (q31, .inl (cA7, 40, .inl (fun _ => 0))), (q39, .inl (cA7, 40, .inl (fun _ => 0))), (q47, .inl (cA7, 24, .inl (fun _ => 0))), (q55, .inl (cA7, 24, .inl (fun _ => 0))), (q68, .inl (cA7, 40, .inl (fun _ => 0))), (q76, .inl (cA7, 40, .inl (fun _ => 0))), (q84, .inl (cA7, 24, .inl (upd (fil (fun _ => (-1)) (fun _ => 0) i) i (-1))))]) H := hP
                have hD : va_D A ([(q, .inr (4, [.int 0, .int (nI (szN p0)), .ref q7, .ref q15, .ref q23, .ref q31, .ref q39, .int 0, .ref q47, .ref q55, .int (-1), .int 0, .int 0, .long 0, .int 0, .int 0, .int 0, .ref q68, .ref q76, .ref q84])), (q7, .inl (cA7, 40, .inl (fil (fun _ => 1) (fun _ => 0) 40))), (q15, .inl (cA7, 40, .inl (fun _ => 0))), (q23, .inl (cA7, 40, .inl (fun _ => 0))), (q31, .inl (cA7, 40, .inl (fun _ => 0))), (q39, .inl (cA7, 40, .inl (fun _ => 0))), (q47, .inl (cA7, 24, .inl (fun _ => 0))), (q55, .inl (cA7, 24, .inl (fun _ => 0))), (q68, .inl (cA7, 40, .inl (fun _ => 0))), (q76, .inl (cA7, 40, .inl (fun _ => 0))), (q84, .inl (cA7, 24, .inl (upd (fil (fun _ => (-1)) (fun _ => 0) i) i (-1))))]) := hD
                refine lv_iinc (v := nI (i + 1)) (lv' := [(2, .int (nI (i + 1))), (0, .ref q), (1, .int p0)]) hx hb dM0_init_150 hl (k := 2) rfl (by rw [← nI_1]; rfl) (by decide) rfl (fun ls hl => ?_)
                refine lv_goto (tgt := 137) hx hb dM0_init_153 (by decide) ?_
                exact ih137 (i + 1) (by omega) (by omega) _ _ _ hP hD hS (lv_sub hl [1, 2, 0] rfl)
          have hl0 : lv_has ls 3 [(0, .ref q), (1, .int p0), (2, .int (nI 0))] := by
            rw [nI_0]; exact lv_sub hl [1, 2, 0] rfl
          exact hloop137 (24 + 1) 0 (by omega) (by omega) _ _ _ hP hD hS hl0
        · skip
          have hlt : i < 40 := by
            rcases Nat.lt_or_ge i 40 with h9 | h9
            · exact h9
            · exact absurd (show (40 : Int32) ≤ nI i from nI_le (a := 40) h9 (by omega)) c_119
          refine lv_aload_n hx hb dM0_init_122 rfl (lv_at hl 0 rfl) ?_
          refine va_get (D := (dC, dI)) (ci := 4) (v := .ref q7) (C := RM0) (T := TM0) (N := 20) hx hb hts inM0 hown hK hP 0 rfl rfl 2 (by decide) (hE.t m_429 rfl) (fun _ h9 => h9) rfl dM0_init_123 ?_
          refine lv_iload_n hx hb dM0_init_126 rfl (lv_at hl 2 rfl) ?_
          refine lv_iconst (v := 1) hx hb dM0_init_127 (by decide) ?_
          refine va_iast hx hb hK hP hD hS 1 0 rfl rfl (vp_in_nI (by omega) (by omega)) dM0_init_128 (fun H locs hP hD hS => ?_)
          rw [nI_clamp (n := i) (by omega)] at hP hD
          have hP : va_P (dC, dI) vwCl ([(q, .inr (4, [.int 0, .int (nI (szN p0)), .ref q7, .ref q15, .ref q23, .ref q31, .ref q39, .int 0, .ref q47, .ref q55, .int (-1), .int 0, .int 0, .long 0, .int 0, .int 0, .int 0, .ref q68, .ref q76, .ref q84])), (q7, .inl (cA7, 40, .inl (upd (fil (fun _ => 1) (fun _ => 0) i) i 1))), (q15, .inl (cA7, 40, .inl (fun _ => 0))), (q23, .inl (cA7, 40, .inl (fun _ => 0))), (q31, .inl (cA7, 40, .inl (fun _ => 0))), (q39, .inl (cA7, 40, .inl (fun _ => 0))), (q47, .inl (cA7, 24, .inl (fun _ => 0))), (q55, .inl (cA7, 24, .inl (fun _ => 0))), (q68, .inl (cA7, 40, .inl (fun _ => 0))), (q76, .inl (cA7, 40, .inl (fun _ => 0))), (q84, .inl (cA7, 24, .inl (fun _ => 0)))]) H := hP
          have hD : va_D A ([(q, .inr (4, [.int 0, .int (nI (szN p0)), .ref q7, .ref q15, .ref q23, .ref q31, .ref q39, .int 0, .ref q47, .ref q55, .int (-1), .int 0, .int 0, .long 0, .int 0, .int 0, .int 0, .ref q68, .ref q76, .ref q84])), (q7, .inl (cA7, 40, .inl (upd (fil (fun _ => 1) (fun _ => 0) i) i 1))), (q15, .inl (cA7, 40, .inl (fun _ => 0))), (q23, .inl (cA7, 40, .inl (fun _ => 0))), (q31, .inl (cA7, 40, .inl (fun _ => 0))), (q39, .inl (cA7, 40, .inl (fun _ => 0))), (q47, .inl (cA7, 24, .inl (fun _ => 0))), (q55, .inl (cA7, 24, .inl (fun _ => 0))), (q68, .inl (cA7, 40, .inl (fun _ => 0))), (q76, .inl (cA7, 40, .inl (fun _ => 0))), (q84, .inl (cA7, 24, .inl (fun _ => 0)))]) := hD
          refine lv_iinc (v := nI (i + 1)) (lv' := [(2, .int (nI (i + 1))), (0, .ref q), (1, .int p0)]) hx hb dM0_init_129 hl (k := 2) rfl (by rw [← nI_1]; rfl) (by decide) rfl (fun ls hl => ?_)
          refine lv_goto (tgt := 116) hx hb dM0_init_132 (by decide) ?_
          exact ih116 (i + 1) (by omega) (by omega) _ _ _ hP hD hS (lv_sub hl [1, 2, 0] rfl)
    have hl0 : lv_has ls 3 [(0, .ref q), (1, .int p0), (2, .int (nI 0))] := by
      rw [nI_0]; exact lv_sub hl [1, 2, 0] rfl
    exact hloop116 (40 + 1) 0 (by omega) (by omega) _ _ _ hP hD hS hl0
