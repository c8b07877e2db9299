/-! ===== the law's start ===== -/
theorem x_blind {b L : Nat} {xs : Nat → Int32} {sz : Nat} {av : List Value} : FrameBlind (va_Pc av (fun U => U.heap.size = sz ∧ va_X b L xs U U.heap)) := fun a U g mk q => by
  obtain ⟨q0, q1, q2⟩ := q
  exact ⟨q0, q1, va_X.moved (u := U) (U := U.calling g mk a) (Vm.Alike.refl U.vm) q2⟩
set_option maxHeartbeats 4000000 in
set_option maxRecDepth 100000 in
/-- cell(script, 0) -/
theorem c_L_cell (l : Launch) (b L sz : Nat) (xs : Nat → Int32) (hbs : b < sz) (hL : L ≤ 2561) : Met l yL_cell wsL_cell ({ frames := 0, cells := 0, slots := 0, locals := 0 }) (va_Pc [.ref b, .int 0] (fun U => U.heap.size = sz ∧ va_X b L xs U U.heap)) (va_Qi (fun (r : Int32) (_ : Unit) => r = if L = 0 then 0 else xs 0) (fun _ _ => True) (fun q => sz ≤ q)) 0 0 (fun q => sz ≤ q) := by
  refine Met.ofW (cc := cL_cell) (maxL := 2) (ret := (some .int)) (by decide) rfl ?_
  intro p e s m args below meth c s₁ B hml hv
  obtain ⟨rfl, hsz, hX⟩ := hv
  have hx := B.exec
  have hb := B.bytes
  have hr := B.returns
  have hlocks := B.notSynchronized
  subst hsz
  have hbA : ¬ (fun q : Nat => s.heap.size ≤ q) b := Nat.not_le.mpr hbs
  have hS : va_S (fun q : Nat => s.heap.size ≤ q) s.heap s.heap [] := va_S.rf
  have hl := lv_entry ([.ref b, .int 0]) (n := 2) (Nat.le_of_ble_eq_true rfl)
  rw [lg_entry_eq]
  generalize (lg_sl ([.ref b, .int 0]) ++ List.replicate (2 - (lg_sl ([.ref b, .int 0])).length) Slot.unset).toArray = ls at hl ⊢
  have hl : lv_has ls 2 [(0, .ref b), (1, .int 0)] := hl
  refine lv_iload_n hx hb dL_cell_0 rfl (lv_at hl 1 rfl) ?_
  refine lv_aload_n hx hb dL_cell_1 rfl (lv_at hl 0 rfl) ?_
  refine va_slen hx hb hX hbs hbA hS dL_cell_2 ?_
  refine lv_icmp_ge (tgt := 12) hx hb dL_cell_3 (by decide) (fun c3 => ?_) (fun c3 => ?_)
  · refine lv_iconst (v := 0) hx hb dL_cell_12 (by decide) ?_
    have h0 : L = 0 := by
      have := (nI_leI (a := L) (b := 0) (by omega) (by omega)).mp c3
      omega
    exact W.iret (v := 0) hx hb hr (fun t ht hW => ⟨⟨0, (), rfl, by rw [if_pos h0], trivial⟩, hS.F ht⟩) hS.2.2 dL_cell_13
  · have h0 : ¬ L = 0 := fun q => c3 (by rw [q]; exact Int32.le_refl _)
    have hin : vp_in 0 L := by rw [← nI_0]; exact vp_in_nI (by omega) (by omega)
    refine lv_aload_n hx hb dL_cell_6 rfl (lv_at hl 0 rfl) ?_
    refine lv_iload_n hx hb dL_cell_7 rfl (lv_at hl 1 rfl) ?_
    refine va_sld hx hb hX hbs hbA hS hin dL_cell_8 ?_
    refine lv_goto (tgt := 13) hx hb dL_cell_9 (by decide) ?_
    rw [sb_cl0]
    exact W.iret (v := xs 0) hx hb hr (fun t ht hW => ⟨⟨xs 0, (), rfl, by rw [if_neg h0], trivial⟩, hS.F ht⟩) hS.2.2 dL_cell_13
theorem pl {D : va_G} {cl : List vw_C} {P Q : va_W} {H : Heap} (h : va_P D cl (P ++ Q) H) : va_P D cl P H := fun k q hk => h k q (by rw [List.getElem?_append_left (List.getElem?_eq_some_iff.mp hk).1]; exact hk)
theorem pr {D : va_G} {cl : List vw_C} {P Q : va_W} {H : Heap} (h : va_P D cl (P ++ Q) H) : va_P D cl Q H := fun k q hk => h (P.length + k) q (by rw [List.getElem?_append_right (by omega), show P.length + k - P.length = k by omega]; exact hk)
/-- at the start both hold the same -/
theorem rel0 {n : Nat} (h1 : 1 ≤ n) (h2 : n ≤ 40) : Rel 1 (x0 n) (m0 n) := by
  unfold x0 m0
  refine relC ⟨h1, h2, by omega, ⟨0, by omega, nI_0.symm, rfl⟩, fun k hk => ?_, fun q => absurd rfl q⟩
  rw [fil_in _ _ n k hk, fil_in _ _ 40 k (by omega)]
  exact ⟨rfl, rfl, rfl, rfl, Or.inr rfl, rfl, rfl, ⟨0, by omega, nI_0.symm⟩, ⟨0, by omega, nI_0.symm⟩⟩
theorem evS_own : ∀ q ∈ evS, q.1 = "DrawShares" := by decide
theorem evS_in : ∀ q ∈ evS, Cond.stringRef q.1 q.2.1 q.2.2 ∈ lw_tbl := by decide +kernel
theorem evC_in : ∀ q ∈ evC, Cond.not (Cond.castable q.1 q.2) ∈ flatC (Jvm.Cond.and given_1 narrow_1) := by decide +kernel
theorem ev0 {s : State} {b : Nat} {cX : ClassId} (hts : ∀ w ∈ lw_tbl, w.before #[Value.ref b] s = true) (hgv : (Jvm.Cond.and given_1 narrow_1).before #[Value.ref b] s = true) (hcX : s.vm.findClass "DrawShares" = some cX) : EV (fun q : Nat => s.heap.size ≤ q) s s.heap := by
  have hf := flat_of_before _ hgv
  have hno : ∀ q : Nat, q < s.heap.size → ¬ s.heap.size ≤ q := fun q h => Nat.not_le.mpr h
  refine ⟨fun w hw hk => ?_, fun q hq => ?_, ?_, ?_, fun q hq => va_Nc.of (hf _ (evC_in q hq))⟩
  · have h := hts w hw
    simp only [okw, Bool.or_eq_true] at hk
    rcases hk with hk | hk
    · exact word_at (State.WarmedH.refl s) (good_of_word hk) h
    · exact va_Nw.of (evk_on hk) h
  · have h := hts _ (evS_in q hq)
    obtain ⟨k, cf, i, sa, -, -, -, -, -, hev⟩ := Cond.stringRef_spec (by rw [evS_own q hq]; exact hcX) h
    exact ⟨sa, vk_R.of h hev⟩
  · exact vx_Zqof (hts _ m_205) (hts _ m_28) (hf _ (by decide +kernel)) hno
  · exact vx_Zqof (hts _ m_207) (hts _ m_28) (hf _ (by decide +kernel)) hno

theorem gL_law_L_cell : GoodIn lw_good (va_wsS RL 61 yL_cell wsL_cell) := gm (List.forall_mem_cons.mpr ⟨⟨m_162, rfl⟩, List.forall_mem_cons.mpr ⟨⟨m_163, rfl⟩, List.forall_mem_cons.mpr ⟨⟨m_20, rfl⟩, List.forall_mem_cons.mpr ⟨⟨m_164, rfl⟩, fun _ h => absurd h List.not_mem_nil⟩⟩⟩⟩)
theorem gL_law_X0_init : GoodIn lw_good wsX0_init := gm (List.forall_mem_cons.mpr ⟨⟨m_38, rfl⟩, fun _ h => absurd h List.not_mem_nil⟩)
theorem gL_law_M0_init : GoodIn lw_good wsM0_init := gm (List.forall_mem_cons.mpr ⟨⟨m_425, rfl⟩, fun _ h => absurd h List.not_mem_nil⟩)
