set_option maxHeartbeats 4000000 in
set_option maxRecDepth 100000 in
/-- Arrays.fill(row, v) -/
theorem c_fill (l : Launch) (dC : Nat → ClassId) (dI : Nat → Nat → Nat) (c0 : ClassId) (q : Nat) (sz : Nat) (n : Nat) (f : Nat → Int32) (v : Int32) (hn : n ≤ 1000) : Met l yJ0_fill wsJ0_fill ({ frames := 0, cells := 0, slots := 0, locals := 0 }) (va_Pc [.ref q, .int v] (PI dC dI [(q, .inl (c0, n, .inl f))] [(c0, .int)] sz)) (va_Qv (fun f2 : Nat → Int32 => f2 = fil (fun _ => v) f n) (fun f2 t => va_P (dC, dI) vwCl [(q, .inl (c0, n, .inl f2))] t.heap ∧ va_K (dC, dI) vwCl [(c0, .int)] t ∧ va_D (va_A [(q, .inl (c0, n, .inl f))] sz) [(q, .inl (c0, n, .inl f2))]) (va_A [(q, .inl (c0, n, .inl f))] sz)) 0 0 (va_A [(q, .inl (c0, n, .inl f))] sz) := by
  refine Met.ofW (cc := cJ0_fill) (maxL := 4) (ret := none) (by decide) rfl ?_
  intro p e s m args below meth c s₁ B hml hv
  obtain ⟨rfl, hsz, hP, hK, hD0⟩ := hv
  have hx := B.exec
  have hb := B.bytes
  have hr := B.returns
  have hown : s.vm.findClass RJ0 = some m.cls := findClass_of_methodNamed B.named
  have hlocks := B.notSynchronized
  subst hsz
  have hD := hD0.self (sz := s.heap.size)
  generalize hAe : va_A [(q, .inl (c0, n, .inl f))] s.heap.size = A at hD ⊢
  have hA : ∀ q : Nat, s.heap.size ≤ q → A q := fun q h => by rw [← hAe]; exact Or.inr h
  have hS : va_S A s.heap s.heap [] := va_S.rf
  have hP : va_P (dC, dI) vwCl ([(q, .inl (c0, n, .inl f))]) s.heap := hP
  refine gz (P := fun Z => W p l e _ s m _ below meth c _ _ _ _ Z _) (fun Z hZ => ?_)
  show W p l e _ s m _ below meth c _ _ _ _ Z _
  have hl := lv_entry ([.ref q, .int v]) (n := 4) (Nat.le_of_ble_eq_true rfl)
  rw [lg_entry_eq]
  generalize (lg_sl ([.ref q, .int v]) ++ List.replicate (4 - (lg_sl ([.ref q, .int v])).length) Slot.unset).toArray = ls at hl ⊢
  have hl : lv_has ls 4 [(0, .ref q), (1, .int v)] := hl
  refine lv_iconst (v := 0) hx hb dJ0_fill_0 (by decide) ?_
  refine lv_istore_n (lv' := [(2, .int 0), (0, .ref q), (1, .int v)]) hx hb dJ0_fill_1 rfl hl (by decide) rfl (fun ls hl => ?_)
  refine lv_aload_n hx hb dJ0_fill_2 rfl (lv_at hl 1 rfl) ?_
  refine va_alen hx hb hK hP 0 0 rfl rfl (v := nI n) rfl dJ0_fill_3 ?_
  refine lv_istore_n (lv' := [(3, .int (nI n)), (2, .int 0), (0, .ref q), (1, .int v)]) hx hb dJ0_fill_4 rfl hl (by decide) rfl (fun ls hl => ?_)
  have hloop5 : ∀ (fu : Nat) (i : Nat), n + 1 ≤ i + fu → i ≤ n → ∀ (H : Heap) (locs : List Loc) (ls : Array Slot), va_P (dC, dI) vwCl ([(q, .inl (c0, n, .inl (fil (fun _ => v) f i)))]) H → va_D A ([(q, .inl (c0, n, .inl (fil (fun _ => v) f i)))]) → va_S A s.heap H locs → lv_has ls 4 [(0, .ref q), (1, .int v), (2, .int (nI i)), (3, .int (nI n))] → W p l e (headSpec wsJ0_fill ({ frames := 0, cells := 0, slots := 0, locals := 0 })).room s m ([.ref q, .int v] : List Value).toArray below meth c H locs 0 0 Z (F0 m 5 ls []) := by
    intro fu
    induction fu with
    | zero =>
      intro i hfu hi
      exact absurd hfu (by omega)
    | succ fu ih5 =>
      intro i hfu hi H locs ls hP hD hS hl
      refine lv_iload_n hx hb dJ0_fill_5 rfl (lv_at hl 2 rfl) ?_
      refine lv_iload_n hx hb dJ0_fill_6 rfl (lv_at hl 3 rfl) ?_
      refine lv_icmp_ge (tgt := 20) hx hb dJ0_fill_7 (by decide) (fun c_7 => ?_) (fun c_7 => ?_)
      · skip
        have hie : i = n := by
          have h9 := (nI_leI (a := n) (b := i) (by omega) (by omega)).mp c_7
          omega
        rw [hie] at hP hD hl
        rw [hZ]
        exact W.vret hx hb hr (fun t ht hW => ⟨⟨fil (fun _ => v) f n, rfl, rfl, by rw [ht]; exact hP, va_K.moved hW.alike hK, hD⟩, hS.F ht⟩) hS.2.2 dJ0_fill_20
      · skip
        have hlt : i < n := by
          rcases Nat.lt_or_ge i n with h9 | h9
          · exact h9
          · exact absurd (nI_le h9 (by omega)) c_7
        refine lv_aload_n hx hb dJ0_fill_10 rfl (lv_at hl 0 rfl) ?_
        refine lv_iload_n hx hb dJ0_fill_11 rfl (lv_at hl 2 rfl) ?_
        refine lv_iload_n hx hb dJ0_fill_12 rfl (lv_at hl 1 rfl) ?_
        refine va_iast hx hb hK hP hD hS 0 0 rfl rfl (vp_in_nI (by omega) (by omega)) dJ0_fill_13 (fun H locs hP hD hS => ?_)
        rw [nI_clamp (n := i) (by omega)] at hP hD
        have hP : va_P (dC, dI) vwCl ([(q, .inl (c0, n, .inl (upd (fil (fun _ => v) f i) i v)))]) H := hP
        have hD : va_D A ([(q, .inl (c0, n, .inl (upd (fil (fun _ => v) f i) i v)))]) := hD
        refine lv_iinc (v := nI (i + 1)) (lv' := [(2, .int (nI (i + 1))), (0, .ref q), (1, .int v), (3, .int (nI n))]) hx hb dJ0_fill_14 hl (k := 2) rfl (by rw [← nI_1]; rfl) (by decide) rfl (fun ls hl => ?_)
        refine lv_goto (tgt := 5) hx hb dJ0_fill_17 (by decide) ?_
        exact ih5 (i + 1) (by omega) (by omega) _ _ _ hP hD hS (lv_sub hl [1, 2, 0, 3] rfl)
  have hl0 : lv_has ls 4 [(0, .ref q), (1, .int v), (2, .int (nI 0)), (3, .int (nI n))] := by
    rw [nI_0]; exact lv_sub hl [2, 3, 1, 0] rfl
  exact hloop5 (n + 1) 0 (by omega) (by omega) _ _ _ hP hD hS hl0
