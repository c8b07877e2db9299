theorem in01 : vp_in 0 1 := by rw [← nI_0]; exact vp_in_nI (by omega) (by omega)
theorem gL_share_X0_share : GoodIn lw_good (wsV RL 7 RX0 yX0_share wsX0_share) := gm (List.forall_mem_cons.mpr ⟨⟨m_170, rfl⟩, List.forall_mem_cons.mpr ⟨⟨m_171, rfl⟩, List.forall_mem_cons.mpr ⟨⟨m_172, rfl⟩, List.forall_mem_cons.mpr ⟨⟨m_21, rfl⟩, List.forall_mem_cons.mpr ⟨⟨m_173, rfl⟩, fun _ h => absurd h List.not_mem_nil⟩⟩⟩⟩⟩)
theorem gL_fails_X0_fails : GoodIn lw_good (wsV RL 17 RX0 yX0_fails wsX0_fails) := gm (List.forall_mem_cons.mpr ⟨⟨m_266, rfl⟩, List.forall_mem_cons.mpr ⟨⟨m_267, rfl⟩, List.forall_mem_cons.mpr ⟨⟨m_268, rfl⟩, List.forall_mem_cons.mpr ⟨⟨m_21, rfl⟩, List.forall_mem_cons.mpr ⟨⟨m_269, rfl⟩, fun _ h => absurd h List.not_mem_nil⟩⟩⟩⟩⟩)
theorem gL_act_X0_act : GoodIn lw_good (wsV RL 21 RX0 yX0_act wsX0_act) := gm (List.forall_mem_cons.mpr ⟨⟨m_276, rfl⟩, List.forall_mem_cons.mpr ⟨⟨m_277, rfl⟩, List.forall_mem_cons.mpr ⟨⟨m_278, rfl⟩, List.forall_mem_cons.mpr ⟨⟨m_21, rfl⟩, List.forall_mem_cons.mpr ⟨⟨m_279, rfl⟩, fun _ h => absurd h List.not_mem_nil⟩⟩⟩⟩⟩)
theorem gL_stop_X0_stop : GoodIn lw_good (wsV RL 27 RX0 yX0_stop wsX0_stop) := gm (List.forall_mem_cons.mpr ⟨⟨m_304, rfl⟩, List.forall_mem_cons.mpr ⟨⟨m_305, rfl⟩, List.forall_mem_cons.mpr ⟨⟨m_306, rfl⟩, List.forall_mem_cons.mpr ⟨⟨m_21, rfl⟩, List.forall_mem_cons.mpr ⟨⟨m_307, rfl⟩, fun _ h => absurd h List.not_mem_nil⟩⟩⟩⟩⟩)
theorem gL_run_X0_run : GoodIn lw_good (wsV RL 31 RX0 yX0_run wsX0_run) := gm (List.forall_mem_cons.mpr ⟨⟨m_311, rfl⟩, List.forall_mem_cons.mpr ⟨⟨m_312, rfl⟩, List.forall_mem_cons.mpr ⟨⟨m_313, rfl⟩, List.forall_mem_cons.mpr ⟨⟨m_21, rfl⟩, List.forall_mem_cons.mpr ⟨⟨m_314, rfl⟩, fun _ h => absurd h List.not_mem_nil⟩⟩⟩⟩⟩)
theorem gL_joined_X0_joined : GoodIn lw_good (wsV RL 34 RX0 yX0_joined wsX0_joined) := gm (List.forall_mem_cons.mpr ⟨⟨m_358, rfl⟩, List.forall_mem_cons.mpr ⟨⟨m_359, rfl⟩, List.forall_mem_cons.mpr ⟨⟨m_360, rfl⟩, List.forall_mem_cons.mpr ⟨⟨m_21, rfl⟩, List.forall_mem_cons.mpr ⟨⟨m_361, rfl⟩, fun _ h => absurd h List.not_mem_nil⟩⟩⟩⟩⟩)
theorem gL_many_X0_many : GoodIn lw_good (wsV RL 38 RX0 yX0_many wsX0_many) := gm (List.forall_mem_cons.mpr ⟨⟨m_370, rfl⟩, List.forall_mem_cons.mpr ⟨⟨m_371, rfl⟩, List.forall_mem_cons.mpr ⟨⟨m_372, rfl⟩, List.forall_mem_cons.mpr ⟨⟨m_21, rfl⟩, List.forall_mem_cons.mpr ⟨⟨m_373, rfl⟩, fun _ h => absurd h List.not_mem_nil⟩⟩⟩⟩⟩)
theorem gL_value_X0_value : GoodIn lw_good (wsV RL 42 RX0 yX0_value wsX0_value) := gm (List.forall_mem_cons.mpr ⟨⟨m_377, rfl⟩, List.forall_mem_cons.mpr ⟨⟨m_378, rfl⟩, List.forall_mem_cons.mpr ⟨⟨m_379, rfl⟩, List.forall_mem_cons.mpr ⟨⟨m_21, rfl⟩, List.forall_mem_cons.mpr ⟨⟨m_380, rfl⟩, fun _ h => absurd h List.not_mem_nil⟩⟩⟩⟩⟩)
theorem gL_chain_X0_chain : GoodIn lw_good (wsV RL 45 RX0 yX0_chain wsX0_chain) := gm (List.forall_mem_cons.mpr ⟨⟨m_384, rfl⟩, List.forall_mem_cons.mpr ⟨⟨m_385, rfl⟩, List.forall_mem_cons.mpr ⟨⟨m_386, rfl⟩, List.forall_mem_cons.mpr ⟨⟨m_21, rfl⟩, List.forall_mem_cons.mpr ⟨⟨m_387, rfl⟩, fun _ h => absurd h List.not_mem_nil⟩⟩⟩⟩⟩)
theorem gL_came_X0_came : GoodIn lw_good (wsV RL 49 RX0 yX0_came wsX0_came) := gm (List.forall_mem_cons.mpr ⟨⟨m_393, rfl⟩, List.forall_mem_cons.mpr ⟨⟨m_394, rfl⟩, List.forall_mem_cons.mpr ⟨⟨m_395, rfl⟩, List.forall_mem_cons.mpr ⟨⟨m_21, rfl⟩, List.forall_mem_cons.mpr ⟨⟨m_396, rfl⟩, fun _ h => absurd h List.not_mem_nil⟩⟩⟩⟩⟩)
theorem gL_begun_X0_begun : GoodIn lw_good (wsV RL 52 RX0 yX0_begun wsX0_begun) := gm (List.forall_mem_cons.mpr ⟨⟨m_401, rfl⟩, List.forall_mem_cons.mpr ⟨⟨m_402, rfl⟩, List.forall_mem_cons.mpr ⟨⟨m_403, rfl⟩, List.forall_mem_cons.mpr ⟨⟨m_21, rfl⟩, List.forall_mem_cons.mpr ⟨⟨m_404, rfl⟩, fun _ h => absurd h List.not_mem_nil⟩⟩⟩⟩⟩)
theorem gL_steps_X0_steps : GoodIn lw_good (wsV RL 55 RX0 yX0_steps wsX0_steps) := gm (List.forall_mem_cons.mpr ⟨⟨m_408, rfl⟩, List.forall_mem_cons.mpr ⟨⟨m_409, rfl⟩, List.forall_mem_cons.mpr ⟨⟨m_410, rfl⟩, List.forall_mem_cons.mpr ⟨⟨m_21, rfl⟩, List.forall_mem_cons.mpr ⟨⟨m_411, rfl⟩, fun _ h => absurd h List.not_mem_nil⟩⟩⟩⟩⟩)
theorem gL_count_X0_count : GoodIn lw_good (wsV RL 58 RX0 yX0_count wsX0_count) := gm (List.forall_mem_cons.mpr ⟨⟨m_416, rfl⟩, List.forall_mem_cons.mpr ⟨⟨m_417, rfl⟩, List.forall_mem_cons.mpr ⟨⟨m_418, rfl⟩, List.forall_mem_cons.mpr ⟨⟨m_21, rfl⟩, List.forall_mem_cons.mpr ⟨⟨m_419, rfl⟩, fun _ h => absurd h List.not_mem_nil⟩⟩⟩⟩⟩)
set_option maxHeartbeats 4000000 in
set_option maxRecDepth 100000 in
/-- the law's share -/
theorem c_L_share (l : Launch) (hl9 : l.stackTraces = false) (dC : Nat → ClassId) (dI : Nat → Nat → Nat) (c0 cL : ClassId) (o : Nat) (g : Nat → Int64) (a : Nat → Nat) (sz : Nat) (uu : xS) (hok : xok uu) (k : Int32) (w : Int32) (x : Int32) (b : Int32) : Met l yL_share wsL_share ({ frames := 8, cells := 2, slots := 12, locals := 128 }) (va_Pc [.ref (a 0), .int k, .int w, .int x, .int b, .ref o] (PW dC dI c0 cL a o uu g sz)) (va_Qi (fun (r : Int32) (v9 : xS × (Nat → Int64)) => r = (f_share uu k w x b).1 ∧ v9.1 = (f_share uu k w x b).2.2 ∧ v9.2 = if (f_share uu k w x b).1 = 0 then vp_updL g 0 (f_share uu k w x b).2.1 else g) (fun (v9 : xS × (Nat → Int64)) t => va_P (dC, dI) vwCl (WO c0 cL a o v9.1 v9.2) t.heap ∧ va_K (dC, dI) vwCl [(c0, .int), (cL, .long)] t ∧ va_D (va_A (WO c0 cL a o uu g) sz) (WO c0 cL a o v9.1 v9.2)) (va_A (WO c0 cL a o uu g) sz)) 2 12 (va_A (WO c0 cL a o uu g) sz) := by
  obtain ⟨n, wk, sd, bt, lt, lo, rk, ad, vl, bg, cm, sp, gd, rf, ct, rd, sm, js, sn, wl⟩ := uu
  obtain ⟨hn, hct⟩ := hok
  refine va_MetW (cc := cL_share) (maxL := 7) (ret := (some .int)) (hh := [(0, 14, 17, 13), (0, 14, 21, 15)]) (by decide) rfl ?_
  intro p e s m args below meth c s₁ B hml hv
  obtain ⟨rfl, hsz, hP, hK, hD0, hE⟩ := hv
  have hx := B.exec
  have hb := B.bytes
  have hr := B.returns
  have hown : s.vm.findClass RL = some m.cls := findClass_of_methodNamed B.named
  have hlocks := B.notSynchronized
  have hTab : c.exceptionTable.toList = tableOf [(0, 14, 17, 13), (0, 14, 21, 15)] := vx_table (x := yL_share) B (hE.t m_167 rfl)
  subst hsz
  have hD := hD0.self (sz := s.heap.size)
  generalize hAe : va_A (WO c0 cL a o (n, wk, sd, bt, lt, lo, rk, ad, vl, bg, cm, sp, gd, rf, ct, rd, sm, js, sn, wl) g) s.heap.size = A at hD hE ⊢
  have hts := hE.ts (args := ([.ref (a 0), .int k, .int w, .int x, .int b, .ref o] : List Value).toArray)
  have hA : ∀ q : Nat, s.heap.size ≤ q → A q := fun q h => by rw [← hAe]; exact Or.inr h
  have hS : va_S A s.heap s.heap [] := va_S.rf
  have hP : va_P (dC, dI) vwCl (WO c0 cL a o (n, wk, sd, bt, lt, lo, rk, ad, vl, bg, cm, sp, gd, rf, ct, rd, sm, js, sn, wl) g) s.heap := hP
  have hl := lv_entry ([.ref (a 0), .int k, .int w, .int x, .int b, .ref o]) (n := 7) (Nat.le_of_ble_eq_true rfl)
  rw [lg_entry_eq]
  generalize (lg_sl ([.ref (a 0), .int k, .int w, .int x, .int b, .ref o]) ++ List.replicate (7 - (lg_sl ([.ref (a 0), .int k, .int w, .int x, .int b, .ref o])).length) Slot.unset).toArray = ls at hl ⊢
  have hl : lv_has ls 7 [(0, .ref (a 0)), (1, .int k), (2, .int w), (3, .int x), (4, .int b), (5, .ref o)] := hl
  refine lv_aload hx hb dL_share_0 (lv_at hl 5 rfl) ?_
  refine lv_iconst (v := 0) hx hb dL_share_2 (by decide) ?_
  refine lv_aload_n hx hb dL_share_3 rfl (lv_at hl 0 rfl) ?_
  refine lv_iload_n hx hb dL_share_4 rfl (lv_at hl 1 rfl) ?_
  refine lv_iload_n hx hb dL_share_5 rfl (lv_at hl 2 rfl) ?_
  refine lv_iload_n hx hb dL_share_6 rfl (lv_at hl 3 rfl) ?_
  refine lv_iload hx hb dL_share_7 (lv_at hl 4 rfl) ?_
  have hPx := hP.sub (ws' := wX c0 a (n, wk, sd, bt, lt, lo, rk, ad, vl, bg, cm, sp, gd, rf, ct, rd, sm, js, sn, wl)) [1, 2, 3, 4, 5, 6, 7, 8, 9, 10, 11, 12, 13, 14] rfl
  have hDx := hD.sub (ws' := wX c0 a (n, wk, sd, bt, lt, lo, rk, ad, vl, bg, cm, sp, gd, rf, ct, rd, sm, js, sn, wl)) [1, 2, 3, 4, 5, 6, 7, 8, 9, 10, 11, 12, 13, 14] (by decide) rfl
  have hKx := hK.sub (tys' := [(c0, .int)]) [0] rfl
  have hPo := hP.sub (ws' := [(o, .inl (cL, 1, .inr (.inl g)))]) [0] rfl
  have hFx := fre hDx hS hA
  refine vx_calli (vx_runV (As := [.int k, .int w, .int x, .int b]) (rest := [.int 0, .ref o]) ⟨hx, hb, hml, hown, hts⟩ (c_X0_share l hl9 dC dI c0 a _ n wk sd bt lt lo rk ad vl bg cm sp gd rf ct rd sm js sn wl k w x b hn) (cwV 4 hts gL_share_X0_share rfl rfl rfl (by decide +kernel) ⟨(Nat.le_of_ble_eq_true rfl), (Nat.le_of_ble_eq_true rfl)⟩) ⟨PX_blind, va_recv hKx hPx (ci := 0) (q0 := 0) rfl rfl, PX_give hPx hKx hDx hE hS hFx⟩ rfl rfl hl.1 rfl (lv_room (Nat.le_of_ble_eq_true rfl)) dL_share_9 ⟨by decide, by decide⟩) hS (fun q _ h => hFx q h) hFx (fun q _ h => hFx q h) (fun E ce q9 u t H1 locs ht hvm hw hB hz1 hk1 hS hce hcv hcl => ?_) (fun r u t H1 locs ht hvm hw hB hz1 hk1 hS => ?_)
  · skip
    obtain ⟨hEE, hB⟩ := hB
    obtain ⟨hP1, -, hD1⟩ := hB
    rw [ht] at hP1
    obtain ⟨hPo, hD⟩ := jnL (Q := [(o, .inl (cL, 1, .inr (.inl g)))]) (P := wX c0 a (n, wk, sd, bt, lt, lo, rk, ad, vl, bg, cm, sp, gd, rf, ct, rd, sm, js, sn, wl)) hPo hD hk1 hD1 hFx
    have hP := hPo.app hP1
    rcases hEE with ⟨rfl, hf9⟩ | ⟨rfl, hf9⟩
    · skip
      have hP : va_P (dC, dI) vwCl (WO c0 cL a o (n, wk, sd, bt, lt, lo, rk, ad, vl, bg, cm, sp, gd, rf, ct, rd, sm, js, sn, wl) g) H1 := hP
      have hD : va_D A (WO c0 cL a o (n, wk, sd, bt, lt, lo, rk, ad, vl, bg, cm, sp, gd, rf, ct, rd, sm, js, sn, wl) g) := hD
      refine vx_catch (own := RL) (name := "java/lang/IndexOutOfBoundsException") (E := "java/lang/IndexOutOfBoundsException") hown [] ⟨0, 14, 17, 13⟩ [⟨0, 14, 21, 15⟩] (by rw [hTab]; rfl) (fun z hz => nomatch hz) (by decide) (by decide) (hE.t m_168 rfl) (hE.t m_180 rfl) hce hcv hcl ?_
      refine lv_astore (lv' := [(6, .ref q9), (0, .ref (a 0)), (1, .int k), (2, .int w), (3, .int x), (4, .int b), (5, .ref o)]) hx hb dL_share_17 hl (by decide) rfl (fun ls hl => ?_)
      refine lv_iconst (v := 1) hx hb dL_share_19 (by decide) ?_
      exact W.iret (v := 1) hx hb hr (fun t ht hW => ⟨⟨1, ((n, wk, sd, bt, lt, lo, rk, ad, vl, bg, cm, sp, gd, rf, ct, rd, sm, js, sn, wl), g), rfl, ⟨by rw [hf9], by rw [hf9], by rw [hf9]; simp⟩, by rw [ht]; exact hP, va_K.moved hW.alike hK, hD⟩, hS.F ht⟩) hS.2.2 dL_share_20
    · skip
      have hP : va_P (dC, dI) vwCl (WO c0 cL a o (n, wk, sd, bt, lt, lo, rk, ad, vl, bg, cm, sp, gd, rf, ct, rd, sm, js, sn, wl) g) H1 := hP
      have hD : va_D A (WO c0 cL a o (n, wk, sd, bt, lt, lo, rk, ad, vl, bg, cm, sp, gd, rf, ct, rd, sm, js, sn, wl) g) := hD
      refine vx_catch (own := RL) (name := "java/lang/IllegalArgumentException") (E := "java/lang/IllegalArgumentException") hown [⟨0, 14, 17, 13⟩] ⟨0, 14, 21, 15⟩ [] (by rw [hTab]; rfl) (by
          intro z hz
          rcases List.mem_cons.mp hz with rfl | hz
          · exact Or.inr ⟨by decide, "java/lang/IndexOutOfBoundsException", hts (.classLink RL 13 "java/lang/IndexOutOfBoundsException") (by decide +kernel), hE.nc ("java/lang/IllegalArgumentException", "java/lang/IndexOutOfBoundsException") (by decide +kernel)⟩
          cases hz) (by decide) (by decide) (hE.t m_169 rfl) (hE.t m_248 rfl) hce hcv hcl ?_
      refine lv_astore (lv' := [(6, .ref q9), (0, .ref (a 0)), (1, .int k), (2, .int w), (3, .int x), (4, .int b), (5, .ref o)]) hx hb dL_share_21 hl (by decide) rfl (fun ls hl => ?_)
      refine lv_iconst (v := 2) hx hb dL_share_23 (by decide) ?_
      exact W.iret (v := 2) hx hb hr (fun t ht hW => ⟨⟨2, ((n, wk, sd, bt, lt, lo, rk, ad, vl, bg, cm, sp, gd, rf, ct, rd, sm, js, sn, wl), g), rfl, ⟨by rw [hf9], by rw [hf9], by rw [hf9]; simp⟩, by rw [ht]; exact hP, va_K.moved hW.alike hK, hD⟩, hS.F ht⟩) hS.2.2 dL_share_24
  · skip
    obtain ⟨hP1, -, hD1⟩ := hB
    rw [ht] at hP1
    obtain ⟨hPo, hD⟩ := jnL (Q := [(o, .inl (cL, 1, .inr (.inl g)))]) (P := wX c0 a (n, wk, sd, bt, lt, lo, rk, ad, vl, bg, cm, sp, gd, rf, ct, rd, sm, js, sn, wl)) hPo hD hk1 hD1 hFx
    have hP := hPo.app hP1
    have hP : va_P (dC, dI) vwCl (WO c0 cL a o u g) H1 := hP
    have hD : va_D A (WO c0 cL a o u g) := hD
    generalize H1 = H at hP hS ⊢
    refine lv_i2l hx hb dL_share_12 (v := r.toInt64) rfl ?_
    refine va_last hx hb hK hP hD hS 0 1 rfl rfl in01 dL_share_13 (fun H locs hP hD hS => ?_)
    rw [sb_cl0] at hP hD
    have hP : va_P (dC, dI) vwCl (WO c0 cL a o u (vp_updL g 0 r.toInt64)) H := hP
    have hD : va_D A (WO c0 cL a o u (vp_updL g 0 r.toInt64)) := hD
    refine lv_goto (tgt := 25) hx hb dL_share_14 (by decide) ?_
    refine lv_iconst (v := 0) hx hb dL_share_25 (by decide) ?_
    exact W.iret (v := 0) hx hb hr (fun t ht hW => ⟨⟨0, (u, vp_updL g 0 r.toInt64), rfl, ⟨by rw [hw], by rw [hw], by rw [hw]; simp⟩, by rw [ht]; exact hP, va_K.moved hW.alike hK, hD⟩, hS.F ht⟩) hS.2.2 dL_share_26
set_option maxHeartbeats 4000000 in
set_option maxRecDepth 100000 in
/-- the law's fails -/
theorem c_L_fails (l : Launch) (hl9 : l.stackTraces = false) (dC : Nat → ClassId) (dI : Nat → Nat → Nat) (c0 cL : ClassId) (o : Nat) (g : Nat → Int64) (a : Nat → Nat) (sz : Nat) (uu : xS) (hok : xok uu) (k : Int32) (w : Int32) (x : Int32) : Met l yL_fails wsL_fails ({ frames := 8, cells := 2, slots := 12, locals := 128 }) (va_Pc [.ref (a 0), .int k, .int w, .int x, .ref o] (PW dC dI c0 cL a o uu g sz)) (va_Qi (fun (r : Int32) (v9 : xS × (Nat → Int64)) => r = (f_fails uu k w x).1 ∧ v9.1 = (f_fails uu k w x).2.2 ∧ v9.2 = if (f_fails uu k w x).1 = 0 then vp_updL g 0 (f_fails uu k w x).2.1 else g) (fun (v9 : xS × (Nat → Int64)) t => va_P (dC, dI) vwCl (WO c0 cL a o v9.1 v9.2) t.heap ∧ va_K (dC, dI) vwCl [(c0, .int), (cL, .long)] t ∧ va_D (va_A (WO c0 cL a o uu g) sz) (WO c0 cL a o v9.1 v9.2)) (va_A (WO c0 cL a o uu g) sz)) 2 12 (va_A (WO c0 cL a o uu g) sz) := by
  obtain ⟨n, wk, sd, bt, lt, lo, rk, ad, vl, bg, cm, sp, gd, rf, ct, rd, sm, js, sn, wl⟩ := uu
  obtain ⟨hn, hct⟩ := hok
  refine va_MetW (cc := cL_fails) (maxL := 6) (ret := (some .int)) (hh := [(0, 12, 15, 13), (0, 12, 19, 15)]) (by decide) rfl ?_
  intro p e s m args below meth c s₁ B hml hv
  obtain ⟨rfl, hsz, hP, hK, hD0, hE⟩ := hv
  have hx := B.exec
  have hb := B.bytes
  have hr := B.returns
  have hown : s.vm.findClass RL = some m.cls := findClass_of_methodNamed B.named
  have hlocks := B.notSynchronized
  have hTab : c.exceptionTable.toList = tableOf [(0, 12, 15, 13), (0, 12, 19, 15)] := vx_table (x := yL_fails) B (hE.t m_265 rfl)
  subst hsz
  have hD := hD0.self (sz := s.heap.size)
  generalize hAe : va_A (WO c0 cL a o (n, wk, sd, bt, lt, lo, rk, ad, vl, bg, cm, sp, gd, rf, ct, rd, sm, js, sn, wl) g) s.heap.size = A at hD hE ⊢
  have hts := hE.ts (args := ([.ref (a 0), .int k, .int w, .int x, .ref o] : List Value).toArray)
  have hA : ∀ q : Nat, s.heap.size ≤ q → A q := fun q h => by rw [← hAe]; exact Or.inr h
  have hS : va_S A s.heap s.heap [] := va_S.rf
  have hP : va_P (dC, dI) vwCl (WO c0 cL a o (n, wk, sd, bt, lt, lo, rk, ad, vl, bg, cm, sp, gd, rf, ct, rd, sm, js, sn, wl) g) s.heap := hP
  have hl := lv_entry ([.ref (a 0), .int k, .int w, .int x, .ref o]) (n := 6) (Nat.le_of_ble_eq_true rfl)
  rw [lg_entry_eq]
  generalize (lg_sl ([.ref (a 0), .int k, .int w, .int x, .ref o]) ++ List.replicate (6 - (lg_sl ([.ref (a 0), .int k, .int w, .int x, .ref o])).length) Slot.unset).toArray = ls at hl ⊢
  have hl : lv_has ls 6 [(0, .ref (a 0)), (1, .int k), (2, .int w), (3, .int x), (4, .ref o)] := hl
  refine lv_aload hx hb dL_fails_0 (lv_at hl 4 rfl) ?_
  refine lv_iconst (v := 0) hx hb dL_fails_2 (by decide) ?_
  refine lv_aload_n hx hb dL_fails_3 rfl (lv_at hl 0 rfl) ?_
  refine lv_iload_n hx hb dL_fails_4 rfl (lv_at hl 1 rfl) ?_
  refine lv_iload_n hx hb dL_fails_5 rfl (lv_at hl 2 rfl) ?_
  refine lv_iload_n hx hb dL_fails_6 rfl (lv_at hl 3 rfl) ?_
  have hPx := hP.sub (ws' := wX c0 a (n, wk, sd, bt, lt, lo, rk, ad, vl, bg, cm, sp, gd, rf, ct, rd, sm, js, sn, wl)) [1, 2, 3, 4, 5, 6, 7, 8, 9, 10, 11, 12, 13, 14] rfl
  have hDx := hD.sub (ws' := wX c0 a (n, wk, sd, bt, lt, lo, rk, ad, vl, bg, cm, sp, gd, rf, ct, rd, sm, js, sn, wl)) [1, 2, 3, 4, 5, 6, 7, 8, 9, 10, 11, 12, 13, 14] (by decide) rfl
  have hKx := hK.sub (tys' := [(c0, .int)]) [0] rfl
  have hPo := hP.sub (ws' := [(o, .inl (cL, 1, .inr (.inl g)))]) [0] rfl
  have hFx := fre hDx hS hA
  refine vx_calli (vx_runV (As := [.int k, .int w, .int x]) (rest := [.int 0, .ref o]) ⟨hx, hb, hml, hown, hts⟩ (c_X0_fails l hl9 dC dI c0 a _ n wk sd bt lt lo rk ad vl bg cm sp gd rf ct rd sm js sn wl k w x hn) (cwV 3 hts gL_fails_X0_fails rfl rfl rfl (by decide +kernel) ⟨(Nat.le_of_ble_eq_true rfl), (Nat.le_of_ble_eq_true rfl)⟩) ⟨PX_blind, va_recv hKx hPx (ci := 0) (q0 := 0) rfl rfl, PX_give hPx hKx hDx hE hS hFx⟩ rfl rfl hl.1 rfl (lv_room (Nat.le_of_ble_eq_true rfl)) dL_fails_7 ⟨by decide, by decide⟩) hS (fun q _ h => hFx q h) hFx (fun q _ h => hFx q h) (fun E ce q9 u t H1 locs ht hvm hw hB hz1 hk1 hS hce hcv hcl => ?_) (fun r u t H1 locs ht hvm hw hB hz1 hk1 hS => ?_)
  · skip
    obtain ⟨hEE, hB⟩ := hB
    obtain ⟨hP1, -, hD1⟩ := hB
    rw [ht] at hP1
    obtain ⟨hPo, hD⟩ := jnL (Q := [(o, .inl (cL, 1, .inr (.inl g)))]) (P := wX c0 a (n, wk, sd, bt, lt, lo, rk, ad, vl, bg, cm, sp, gd, rf, ct, rd, sm, js, sn, wl)) hPo hD hk1 hD1 hFx
    have hP := hPo.app hP1
    rcases hEE with ⟨rfl, hf9⟩ | ⟨rfl, hf9⟩
    · skip
      have hP : va_P (dC, dI) vwCl (WO c0 cL a o (n, wk, sd, bt, lt, lo, rk, ad, vl, bg, cm, sp, gd, rf, ct, rd, sm, js, sn, wl) g) H1 := hP
      have hD : va_D A (WO c0 cL a o (n, wk, sd, bt, lt, lo, rk, ad, vl, bg, cm, sp, gd, rf, ct, rd, sm, js, sn, wl) g) := hD
      refine vx_catch (own := RL) (name := "java/lang/IndexOutOfBoundsException") (E := "java/lang/IndexOutOfBoundsException") hown [] ⟨0, 12, 15, 13⟩ [⟨0, 12, 19, 15⟩] (by rw [hTab]; rfl) (fun z hz => nomatch hz) (by decide) (by decide) (hE.t m_168 rfl) (hE.t m_180 rfl) hce hcv hcl ?_
      refine lv_astore (lv' := [(5, .ref q9), (0, .ref (a 0)), (1, .int k), (2, .int w), (3, .int x), (4, .ref o)]) hx hb dL_fails_15 hl (by decide) rfl (fun ls hl => ?_)
      refine lv_iconst (v := 1) hx hb dL_fails_17 (by decide) ?_
      exact W.iret (v := 1) hx hb hr (fun t ht hW => ⟨⟨1, ((n, wk, sd, bt, lt, lo, rk, ad, vl, bg, cm, sp, gd, rf, ct, rd, sm, js, sn, wl), g), rfl, ⟨by rw [hf9], by rw [hf9], by rw [hf9]; simp⟩, by rw [ht]; exact hP, va_K.moved hW.alike hK, hD⟩, hS.F ht⟩) hS.2.2 dL_fails_18
    · skip
      have hP : va_P (dC, dI) vwCl (WO c0 cL a o (n, wk, sd, bt, lt, lo, rk, ad, vl, bg, cm, sp, gd, rf, ct, rd, sm, js, sn, wl) g) H1 := hP
      have hD : va_D A (WO c0 cL a o (n, wk, sd, bt, lt, lo, rk, ad, vl, bg, cm, sp, gd, rf, ct, rd, sm, js, sn, wl) g) := hD
      refine vx_catch (own := RL) (name := "java/lang/IllegalArgumentException") (E := "java/lang/IllegalArgumentException") hown [⟨0, 12, 15, 13⟩] ⟨0, 12, 19, 15⟩ [] (by rw [hTab]; rfl) (by
          intro z hz
          rcases List.mem_cons.mp hz with rfl | hz
          · exact Or.inr ⟨by decide, "java/lang/IndexOutOfBoundsException", hts (.classLink RL 13 "java/lang/IndexOutOfBoundsException") (by decide +kernel), hE.nc ("java/lang/IllegalArgumentException", "java/lang/IndexOutOfBoundsException") (by decide +kernel)⟩
          cases hz) (by decide) (by decide) (hE.t m_169 rfl) (hE.t m_248 rfl) hce hcv hcl ?_
      refine lv_astore (lv' := [(5, .ref q9), (0, .ref (a 0)), (1, .int k), (2, .int w), (3, .int x), (4, .ref o)]) hx hb dL_fails_19 hl (by decide) rfl (fun ls hl => ?_)
      refine lv_iconst (v := 2) hx hb dL_fails_21 (by decide) ?_
      exact W.iret (v := 2) hx hb hr (fun t ht hW => ⟨⟨2, ((n, wk, sd, bt, lt, lo, rk, ad, vl, bg, cm, sp, gd, rf, ct, rd, sm, js, sn, wl), g), rfl, ⟨by rw [hf9], by rw [hf9], by rw [hf9]; simp⟩, by rw [ht]; exact hP, va_K.moved hW.alike hK, hD⟩, hS.F ht⟩) hS.2.2 dL_fails_22
  · skip
    obtain ⟨hP1, -, hD1⟩ := hB
    rw [ht] at hP1
    obtain ⟨hPo, hD⟩ := jnL (Q := [(o, .inl (cL, 1, .inr (.inl g)))]) (P := wX c0 a (n, wk, sd, bt, lt, lo, rk, ad, vl, bg, cm, sp, gd, rf, ct, rd, sm, js, sn, wl)) hPo hD hk1 hD1 hFx
    have hP := hPo.app hP1
    have hP : va_P (dC, dI) vwCl (WO c0 cL a o u g) H1 := hP
    have hD : va_D A (WO c0 cL a o u g) := hD
    generalize H1 = H at hP hS ⊢
    refine lv_i2l hx hb dL_fails_10 (v := r.toInt64) rfl ?_
    refine va_last hx hb hK hP hD hS 0 1 rfl rfl in01 dL_fails_11 (fun H locs hP hD hS => ?_)
    rw [sb_cl0] at hP hD
    have hP : va_P (dC, dI) vwCl (WO c0 cL a o u (vp_updL g 0 r.toInt64)) H := hP
    have hD : va_D A (WO c0 cL a o u (vp_updL g 0 r.toInt64)) := hD
    refine lv_goto (tgt := 23) hx hb dL_fails_12 (by decide) ?_
    refine lv_iconst (v := 0) hx hb dL_fails_23 (by decide) ?_
    exact W.iret (v := 0) hx hb hr (fun t ht hW => ⟨⟨0, (u, vp_updL g 0 r.toInt64), rfl, ⟨by rw [hw], by rw [hw], by rw [hw]; simp⟩, by rw [ht]; exact hP, va_K.moved hW.alike hK, hD⟩, hS.F ht⟩) hS.2.2 dL_fails_24
set_option maxHeartbeats 4000000 in
set_option maxRecDepth 100000 in
/-- the law's act -/
theorem c_L_act (l : Launch) (hl9 : l.stackTraces = false) (dC : Nat → ClassId) (dI : Nat → Nat → Nat) (c0 cL : ClassId) (o : Nat) (g : Nat → Int64) (a : Nat → Nat) (sz : Nat) (uu : xS) (hok : xok uu) (k : Int32) (v : Int32) : Met l yL_act wsL_act ({ frames := 8, cells := 1, slots := 6, locals := 128 }) (va_Pc [.ref (a 0), .int k, .int v, .ref o] (PW dC dI c0 cL a o uu g sz)) (va_Qi (fun (r : Int32) (v9 : xS × (Nat → Int64)) => r = (f_act uu k v).1 ∧ v9.1 = (f_act uu k v).2.2 ∧ v9.2 = if (f_act uu k v).1 = 0 then vp_updL g 0 (f_act uu k v).2.1 else g) (fun (v9 : xS × (Nat → Int64)) t => va_P (dC, dI) vwCl (WO c0 cL a o v9.1 v9.2) t.heap ∧ va_K (dC, dI) vwCl [(c0, .int), (cL, .long)] t ∧ va_D (va_A (WO c0 cL a o uu g) sz) (WO c0 cL a o v9.1 v9.2)) (va_A (WO c0 cL a o uu g) sz)) 1 6 (va_A (WO c0 cL a o uu g) sz) := by
  obtain ⟨n, wk, sd, bt, lt, lo, rk, ad, vl, bg, cm, sp, gd, rf, ct, rd, sm, js, sn, wl⟩ := uu
  obtain ⟨hn, hct⟩ := hok
  refine va_MetW (cc := cL_act) (maxL := 5) (ret := (some .int)) (hh := [(0, 10, 13, 13), (0, 10, 17, 25)]) (by decide) rfl ?_
  intro p e s m args below meth c s₁ B hml hv
  obtain ⟨rfl, hsz, hP, hK, hD0, hE⟩ := hv
  have hx := B.exec
  have hb := B.bytes
  have hr := B.returns
  have hown : s.vm.findClass RL = some m.cls := findClass_of_methodNamed B.named
  have hlocks := B.notSynchronized
  have hTab : c.exceptionTable.toList = tableOf [(0, 10, 13, 13), (0, 10, 17, 25)] := vx_table (x := yL_act) B (hE.t m_274 rfl)
  subst hsz
  have hD := hD0.self (sz := s.heap.size)
  generalize hAe : va_A (WO c0 cL a o (n, wk, sd, bt, lt, lo, rk, ad, vl, bg, cm, sp, gd, rf, ct, rd, sm, js, sn, wl) g) s.heap.size = A at hD hE ⊢
  have hts := hE.ts (args := ([.ref (a 0), .int k, .int v, .ref o] : List Value).toArray)
  have hA : ∀ q : Nat, s.heap.size ≤ q → A q := fun q h => by rw [← hAe]; exact Or.inr h
  have hS : va_S A s.heap s.heap [] := va_S.rf
  have hP : va_P (dC, dI) vwCl (WO c0 cL a o (n, wk, sd, bt, lt, lo, rk, ad, vl, bg, cm, sp, gd, rf, ct, rd, sm, js, sn, wl) g) s.heap := hP
  have hl := lv_entry ([.ref (a 0), .int k, .int v, .ref o]) (n := 5) (Nat.le_of_ble_eq_true rfl)
  rw [lg_entry_eq]
  generalize (lg_sl ([.ref (a 0), .int k, .int v, .ref o]) ++ List.replicate (5 - (lg_sl ([.ref (a 0), .int k, .int v, .ref o])).length) Slot.unset).toArray = ls at hl ⊢
  have hl : lv_has ls 5 [(0, .ref (a 0)), (1, .int k), (2, .int v), (3, .ref o)] := hl
  refine lv_aload_n hx hb dL_act_0 rfl (lv_at hl 3 rfl) ?_
  refine lv_iconst (v := 0) hx hb dL_act_1 (by decide) ?_
  refine lv_aload_n hx hb dL_act_2 rfl (lv_at hl 0 rfl) ?_
  refine lv_iload_n hx hb dL_act_3 rfl (lv_at hl 1 rfl) ?_
  refine lv_iload_n hx hb dL_act_4 rfl (lv_at hl 2 rfl) ?_
  have hPx := hP.sub (ws' := wX c0 a (n, wk, sd, bt, lt, lo, rk, ad, vl, bg, cm, sp, gd, rf, ct, rd, sm, js, sn, wl)) [1, 2, 3, 4, 5, 6, 7, 8, 9, 10, 11, 12, 13, 14] rfl
  have hDx := hD.sub (ws' := wX c0 a (n, wk, sd, bt, lt, lo, rk, ad, vl, bg, cm, sp, gd, rf, ct, rd, sm, js, sn, wl)) [1, 2, 3, 4, 5, 6, 7, 8, 9, 10, 11, 12, 13, 14] (by decide) rfl
  have hKx := hK.sub (tys' := [(c0, .int)]) [0] rfl
  have hPo := hP.sub (ws' := [(o, .inl (cL, 1, .inr (.inl g)))]) [0] rfl
  have hFx := fre hDx hS hA
  refine vx_calli (vx_runV (As := [.int k, .int v]) (rest := [.int 0, .ref o]) ⟨hx, hb, hml, hown, hts⟩ (c_X0_act l hl9 dC dI c0 a _ n wk sd bt lt lo rk ad vl bg cm sp gd rf ct rd sm js sn wl k v hn hct) (cwV 2 hts gL_act_X0_act rfl rfl rfl (by decide +kernel) ⟨(Nat.le_of_ble_eq_true rfl), (Nat.le_of_ble_eq_true rfl)⟩) ⟨PX_blind, va_recv hKx hPx (ci := 0) (q0 := 0) rfl rfl, PX_give hPx hKx hDx hE hS hFx⟩ rfl rfl hl.1 rfl (lv_room (Nat.le_of_ble_eq_true rfl)) dL_act_5 ⟨by decide, by decide⟩) hS (fun q _ h => hFx q h) hFx (fun q _ h => hFx q h) (fun E ce q9 u t H1 locs ht hvm hw hB hz1 hk1 hS hce hcv hcl => ?_) (fun r u t H1 locs ht hvm hw hB hz1 hk1 hS => ?_)
  · skip
    obtain ⟨hEE, hB⟩ := hB
    obtain ⟨hP1, -, hD1⟩ := hB
    rw [ht] at hP1
    obtain ⟨hPo, hD⟩ := jnL (Q := [(o, .inl (cL, 1, .inr (.inl g)))]) (P := wX c0 a (n, wk, sd, bt, lt, lo, rk, ad, vl, bg, cm, sp, gd, rf, ct, rd, sm, js, sn, wl)) hPo hD hk1 hD1 hFx
    have hP := hPo.app hP1
    rcases hEE with ⟨rfl, hf9⟩ | ⟨rfl, hf9⟩
    · skip
      have hP : va_P (dC, dI) vwCl (WO c0 cL a o (n, wk, sd, bt, lt, lo, rk, ad, vl, bg, cm, sp, gd, rf, ct, rd, sm, js, sn, wl) g) H1 := hP
      have hD : va_D A (WO c0 cL a o (n, wk, sd, bt, lt, lo, rk, ad, vl, bg, cm, sp, gd, rf, ct, rd, sm, js, sn, wl) g) := hD
      refine vx_catch (own := RL) (name := "java/lang/IndexOutOfBoundsException") (E := "java/lang/IndexOutOfBoundsException") hown [] ⟨0, 10, 13, 13⟩ [⟨0, 10, 17, 25⟩] (by rw [hTab]; rfl) (fun z hz => nomatch hz) (by decide) (by decide) (hE.t m_168 rfl) (hE.t m_180 rfl) hce hcv hcl ?_
      refine lv_astore (lv' := [(4, .ref q9), (0, .ref (a 0)), (1, .int k), (2, .int v), (3, .ref o)]) hx hb dL_act_13 hl (by decide) rfl (fun ls hl => ?_)
      refine lv_iconst (v := 1) hx hb dL_act_15 (by decide) ?_
      exact W.iret (v := 1) hx hb hr (fun t ht hW => ⟨⟨1, ((n, wk, sd, bt, lt, lo, rk, ad, vl, bg, cm, sp, gd, rf, ct, rd, sm, js, sn, wl), g), rfl, ⟨by rw [hf9], by rw [hf9], by rw [hf9]; simp⟩, by rw [ht]; exact hP, va_K.moved hW.alike hK, hD⟩, hS.F ht⟩) hS.2.2 dL_act_16
    · skip
      have hP : va_P (dC, dI) vwCl (WO c0 cL a o (n, wk, sd, bt, lt, lo, rk, ad, vl, bg, cm, sp, gd, rf, ct, rd, sm, js, sn, wl) g) H1 := hP
      have hD : va_D A (WO c0 cL a o (n, wk, sd, bt, lt, lo, rk, ad, vl, bg, cm, sp, gd, rf, ct, rd, sm, js, sn, wl) g) := hD
      refine vx_catch (own := RL) (name := "java/lang/IllegalStateException") (E := "java/lang/IllegalStateException") hown [⟨0, 10, 13, 13⟩] ⟨0, 10, 17, 25⟩ [] (by rw [hTab]; rfl) (by
          intro z hz
          rcases List.mem_cons.mp hz with rfl | hz
          · exact Or.inr ⟨by decide, "java/lang/IndexOutOfBoundsException", hts (.classLink RL 13 "java/lang/IndexOutOfBoundsException") (by decide +kernel), hE.nc ("java/lang/IllegalStateException", "java/lang/IndexOutOfBoundsException") (by decide +kernel)⟩
          cases hz) (by decide) (by decide) (hE.t m_275 rfl) (hE.t m_283 rfl) hce hcv hcl ?_
      refine lv_astore (lv' := [(4, .ref q9), (0, .ref (a 0)), (1, .int k), (2, .int v), (3, .ref o)]) hx hb dL_act_17 hl (by decide) rfl (fun ls hl => ?_)
      refine lv_iconst (v := 2) hx hb dL_act_19 (by decide) ?_
      exact W.iret (v := 2) hx hb hr (fun t ht hW => ⟨⟨2, ((n, wk, sd, bt, lt, lo, rk, ad, vl, bg, cm, sp, gd, rf, ct, rd, sm, js, sn, wl), g), rfl, ⟨by rw [hf9], by rw [hf9], by rw [hf9]; simp⟩, by rw [ht]; exact hP, va_K.moved hW.alike hK, hD⟩, hS.F ht⟩) hS.2.2 dL_act_20
  · skip
    obtain ⟨hP1, -, hD1⟩ := hB
    rw [ht] at hP1
    obtain ⟨hPo, hD⟩ := jnL (Q := [(o, .inl (cL, 1, .inr (.inl g)))]) (P := wX c0 a (n, wk, sd, bt, lt, lo, rk, ad, vl, bg, cm, sp, gd, rf, ct, rd, sm, js, sn, wl)) hPo hD hk1 hD1 hFx
    have hP := hPo.app hP1
    have hP : va_P (dC, dI) vwCl (WO c0 cL a o u g) H1 := hP
    have hD : va_D A (WO c0 cL a o u g) := hD
    generalize H1 = H at hP hS ⊢
    refine lv_i2l hx hb dL_act_8 (v := r.toInt64) rfl ?_
    refine va_last hx hb hK hP hD hS 0 1 rfl rfl in01 dL_act_9 (fun H locs hP hD hS => ?_)
    rw [sb_cl0] at hP hD
    have hP : va_P (dC, dI) vwCl (WO c0 cL a o u (vp_updL g 0 r.toInt64)) H := hP
    have hD : va_D A (WO c0 cL a o u (vp_updL g 0 r.toInt64)) := hD
    refine lv_goto (tgt := 21) hx hb dL_act_10 (by decide) ?_
    refine lv_iconst (v := 0) hx hb dL_act_21 (by decide) ?_
    exact W.iret (v := 0) hx hb hr (fun t ht hW => ⟨⟨0, (u, vp_updL g 0 r.toInt64), rfl, ⟨by rw [hw], by rw [hw], by rw [hw]; simp⟩, by rw [ht]; exact hP, va_K.moved hW.alike hK, hD⟩, hS.F ht⟩) hS.2.2 dL_act_22
set_option maxHeartbeats 4000000 in
set_option maxRecDepth 100000 in
/-- the law's stop -/
theorem c_L_stop (l : Launch) (hl9 : l.stackTraces = false) (dC : Nat → ClassId) (dI : Nat → Nat → Nat) (c0 cL : ClassId) (o : Nat) (g : Nat → Int64) (a : Nat → Nat) (sz : Nat) (uu : xS) (hok : xok uu) (k : Int32) : Met l yL_stop wsL_stop ({ frames := 8, cells := 1, slots := 6, locals := 128 }) (va_Pc [.ref (a 0), .int k, .ref o] (PW dC dI c0 cL a o uu g sz)) (va_Qi (fun (r : Int32) (v9 : xS × (Nat → Int64)) => r = (f_stop uu k).1 ∧ v9.1 = (f_stop uu k).2.2 ∧ v9.2 = if (f_stop uu k).1 = 0 then vp_updL g 0 (f_stop uu k).2.1 else g) (fun (v9 : xS × (Nat → Int64)) t => va_P (dC, dI) vwCl (WO c0 cL a o v9.1 v9.2) t.heap ∧ va_K (dC, dI) vwCl [(c0, .int), (cL, .long)] t ∧ va_D (va_A (WO c0 cL a o uu g) sz) (WO c0 cL a o v9.1 v9.2)) (va_A (WO c0 cL a o uu g) sz)) 1 6 (va_A (WO c0 cL a o uu g) sz) := by
  obtain ⟨n, wk, sd, bt, lt, lo, rk, ad, vl, bg, cm, sp, gd, rf, ct, rd, sm, js, sn, wl⟩ := uu
  obtain ⟨hn, hct⟩ := hok
  refine va_MetW (cc := cL_stop) (maxL := 4) (ret := (some .int)) (hh := [(0, 9, 12, 13)]) (by decide) rfl ?_
  intro p e s m args below meth c s₁ B hml hv
  obtain ⟨rfl, hsz, hP, hK, hD0, hE⟩ := hv
  have hx := B.exec
  have hb := B.bytes
  have hr := B.returns
  have hown : s.vm.findClass RL = some m.cls := findClass_of_methodNamed B.named
  have hlocks := B.notSynchronized
  have hTab : c.exceptionTable.toList = tableOf [(0, 9, 12, 13)] := vx_table (x := yL_stop) B (hE.t m_303 rfl)
  subst hsz
  have hD := hD0.self (sz := s.heap.size)
  generalize hAe : va_A (WO c0 cL a o (n, wk, sd, bt, lt, lo, rk, ad, vl, bg, cm, sp, gd, rf, ct, rd, sm, js, sn, wl) g) s.heap.size = A at hD hE ⊢
  have hts := hE.ts (args := ([.ref (a 0), .int k, .ref o] : List Value).toArray)
  have hA : ∀ q : Nat, s.heap.size ≤ q → A q := fun q h => by rw [← hAe]; exact Or.inr h
  have hS : va_S A s.heap s.heap [] := va_S.rf
  have hP : va_P (dC, dI) vwCl (WO c0 cL a o (n, wk, sd, bt, lt, lo, rk, ad, vl, bg, cm, sp, gd, rf, ct, rd, sm, js, sn, wl) g) s.heap := hP
  have hl := lv_entry ([.ref (a 0), .int k, .ref o]) (n := 4) (Nat.le_of_ble_eq_true rfl)
  rw [lg_entry_eq]
  generalize (lg_sl ([.ref (a 0), .int k, .ref o]) ++ List.replicate (4 - (lg_sl ([.ref (a 0), .int k, .ref o])).length) Slot.unset).toArray = ls at hl ⊢
  have hl : lv_has ls 4 [(0, .ref (a 0)), (1, .int k), (2, .ref o)] := hl
  refine lv_aload_n hx hb dL_stop_0 rfl (lv_at hl 2 rfl) ?_
  refine lv_iconst (v := 0) hx hb dL_stop_1 (by decide) ?_
  refine lv_aload_n hx hb dL_stop_2 rfl (lv_at hl 0 rfl) ?_
  refine lv_iload_n hx hb dL_stop_3 rfl (lv_at hl 1 rfl) ?_
  have hPx := hP.sub (ws' := wX c0 a (n, wk, sd, bt, lt, lo, rk, ad, vl, bg, cm, sp, gd, rf, ct, rd, sm, js, sn, wl)) [1, 2, 3, 4, 5, 6, 7, 8, 9, 10, 11, 12, 13, 14] rfl
  have hDx := hD.sub (ws' := wX c0 a (n, wk, sd, bt, lt, lo, rk, ad, vl, bg, cm, sp, gd, rf, ct, rd, sm, js, sn, wl)) [1, 2, 3, 4, 5, 6, 7, 8, 9, 10, 11, 12, 13, 14] (by decide) rfl
  have hKx := hK.sub (tys' := [(c0, .int)]) [0] rfl
  have hPo := hP.sub (ws' := [(o, .inl (cL, 1, .inr (.inl g)))]) [0] rfl
  have hFx := fre hDx hS hA
  refine vx_calli (vx_runV (As := [.int k]) (rest := [.int 0, .ref o]) ⟨hx, hb, hml, hown, hts⟩ (c_X0_stop l hl9 dC dI c0 a _ n wk sd bt lt lo rk ad vl bg cm sp gd rf ct rd sm js sn wl k hn) (cwV 1 hts gL_stop_X0_stop rfl rfl rfl (by decide +kernel) ⟨(Nat.le_of_ble_eq_true rfl), (Nat.le_of_ble_eq_true rfl)⟩) ⟨PX_blind, va_recv hKx hPx (ci := 0) (q0 := 0) rfl rfl, PX_give hPx hKx hDx hE hS hFx⟩ rfl rfl hl.1 rfl (lv_room (Nat.le_of_ble_eq_true rfl)) dL_stop_4 ⟨by decide, by decide⟩) hS (fun q _ h => hFx q h) hFx (fun q _ h => hFx q h) (fun E ce q9 u t H1 locs ht hvm hw hB hz1 hk1 hS hce hcv hcl => ?_) (fun r u t H1 locs ht hvm hw hB hz1 hk1 hS => ?_)
  · skip
    obtain ⟨hEE, hB⟩ := hB
    obtain ⟨hP1, -, hD1⟩ := hB
    rw [ht] at hP1
    obtain ⟨hPo, hD⟩ := jnL (Q := [(o, .inl (cL, 1, .inr (.inl g)))]) (P := wX c0 a (n, wk, sd, bt, lt, lo, rk, ad, vl, bg, cm, sp, gd, rf, ct, rd, sm, js, sn, wl)) hPo hD hk1 hD1 hFx
    have hP := hPo.app hP1
    obtain ⟨rfl, hf9⟩ := hEE
    have hP : va_P (dC, dI) vwCl (WO c0 cL a o (n, wk, sd, bt, lt, lo, rk, ad, vl, bg, cm, sp, gd, rf, ct, rd, sm, js, sn, wl) g) H1 := hP
    have hD : va_D A (WO c0 cL a o (n, wk, sd, bt, lt, lo, rk, ad, vl, bg, cm, sp, gd, rf, ct, rd, sm, js, sn, wl) g) := hD
    refine vx_catch (own := RL) (name := "java/lang/IndexOutOfBoundsException") (E := "java/lang/IndexOutOfBoundsException") hown [] ⟨0, 9, 12, 13⟩ [] (by rw [hTab]; rfl) (fun z hz => nomatch hz) (by decide) (by decide) (hE.t m_168 rfl) (hE.t m_180 rfl) hce hcv hcl ?_
    refine lv_astore_n (lv' := [(3, .ref q9), (0, .ref (a 0)), (1, .int k), (2, .ref o)]) hx hb dL_stop_12 rfl hl (by decide) rfl (fun ls hl => ?_)
    refine lv_iconst (v := 1) hx hb dL_stop_13 (by decide) ?_
    exact W.iret (v := 1) hx hb hr (fun t ht hW => ⟨⟨1, ((n, wk, sd, bt, lt, lo, rk, ad, vl, bg, cm, sp, gd, rf, ct, rd, sm, js, sn, wl), g), rfl, ⟨by rw [hf9], by rw [hf9], by rw [hf9]; simp⟩, by rw [ht]; exact hP, va_K.moved hW.alike hK, hD⟩, hS.F ht⟩) hS.2.2 dL_stop_14
  · skip
    obtain ⟨hP1, -, hD1⟩ := hB
    rw [ht] at hP1
    obtain ⟨hPo, hD⟩ := jnL (Q := [(o, .inl (cL, 1, .inr (.inl g)))]) (P := wX c0 a (n, wk, sd, bt, lt, lo, rk, ad, vl, bg, cm, sp, gd, rf, ct, rd, sm, js, sn, wl)) hPo hD hk1 hD1 hFx
    have hP := hPo.app hP1
    have hP : va_P (dC, dI) vwCl (WO c0 cL a o u g) H1 := hP
    have hD : va_D A (WO c0 cL a o u g) := hD
    generalize H1 = H at hP hS ⊢
    refine lv_i2l hx hb dL_stop_7 (v := r.toInt64) rfl ?_
    refine va_last hx hb hK hP hD hS 0 1 rfl rfl in01 dL_stop_8 (fun H locs hP hD hS => ?_)
    rw [sb_cl0] at hP hD
    have hP : va_P (dC, dI) vwCl (WO c0 cL a o u (vp_updL g 0 r.toInt64)) H := hP
    have hD : va_D A (WO c0 cL a o u (vp_updL g 0 r.toInt64)) := hD
    refine lv_goto (tgt := 15) hx hb dL_stop_9 (by decide) ?_
    refine lv_iconst (v := 0) hx hb dL_stop_15 (by decide) ?_
    exact W.iret (v := 0) hx hb hr (fun t ht hW => ⟨⟨0, (u, vp_updL g 0 r.toInt64), rfl, ⟨by rw [hw], by rw [hw], by rw [hw]; simp⟩, by rw [ht]; exact hP, va_K.moved hW.alike hK, hD⟩, hS.F ht⟩) hS.2.2 dL_stop_16
set_option maxHeartbeats 4000000 in
set_option maxRecDepth 100000 in
/-- the law's run -/
theorem c_L_run (l : Launch) (hl9 : l.stackTraces = false) (dC : Nat → ClassId) (dI : Nat → Nat → Nat) (c0 cL : ClassId) (o : Nat) (g : Nat → Int64) (a : Nat → Nat) (sz : Nat) (uu : xS) (hok : xok uu) (w : Int32) (y : Int32) : Met l yL_run wsL_run ({ frames := 8, cells := 1, slots := 6, locals := 128 }) (va_Pc [.ref (a 0), .int w, .int y, .ref o] (PW dC dI c0 cL a o uu g sz)) (va_Qi (fun (r : Int32) (v9 : xS × (Nat → Int64)) => r = (f_run uu w y).1 ∧ v9.1 = (f_run uu w y).2.2 ∧ v9.2 = if (f_run uu w y).1 = 0 then vp_updL g 0 (f_run uu w y).2.1 else g) (fun (v9 : xS × (Nat → Int64)) t => va_P (dC, dI) vwCl (WO c0 cL a o v9.1 v9.2) t.heap ∧ va_K (dC, dI) vwCl [(c0, .int), (cL, .long)] t ∧ va_D (va_A (WO c0 cL a o uu g) sz) (WO c0 cL a o v9.1 v9.2)) (va_A (WO c0 cL a o uu g) sz)) 1 6 (va_A (WO c0 cL a o uu g) sz) := by
  obtain ⟨n, wk, sd, bt, lt, lo, rk, ad, vl, bg, cm, sp, gd, rf, ct, rd, sm, js, sn, wl⟩ := uu
  obtain ⟨hn, hct⟩ := hok
  refine va_MetW (cc := cL_run) (maxL := 5) (ret := (some .int)) (hh := [(0, 10, 13, 15)]) (by decide) rfl ?_
  intro p e s m args below meth c s₁ B hml hv
  obtain ⟨rfl, hsz, hP, hK, hD0, hE⟩ := hv
  have hx := B.exec
  have hb := B.bytes
  have hr := B.returns
  have hown : s.vm.findClass RL = some m.cls := findClass_of_methodNamed B.named
  have hlocks := B.notSynchronized
  have hTab : c.exceptionTable.toList = tableOf [(0, 10, 13, 15)] := vx_table (x := yL_run) B (hE.t m_310 rfl)
  subst hsz
  have hD := hD0.self (sz := s.heap.size)
  generalize hAe : va_A (WO c0 cL a o (n, wk, sd, bt, lt, lo, rk, ad, vl, bg, cm, sp, gd, rf, ct, rd, sm, js, sn, wl) g) s.heap.size = A at hD hE ⊢
  have hts := hE.ts (args := ([.ref (a 0), .int w, .int y, .ref o] : List Value).toArray)
  have hA : ∀ q : Nat, s.heap.size ≤ q → A q := fun q h => by rw [← hAe]; exact Or.inr h
  have hS : va_S A s.heap s.heap [] := va_S.rf
  have hP : va_P (dC, dI) vwCl (WO c0 cL a o (n, wk, sd, bt, lt, lo, rk, ad, vl, bg, cm, sp, gd, rf, ct, rd, sm, js, sn, wl) g) s.heap := hP
  have hl := lv_entry ([.ref (a 0), .int w, .int y, .ref o]) (n := 5) (Nat.le_of_ble_eq_true rfl)
  rw [lg_entry_eq]
  generalize (lg_sl ([.ref (a 0), .int w, .int y, .ref o]) ++ List.replicate (5 - (lg_sl ([.ref (a 0), .int w, .int y, .ref o])).length) Slot.unset).toArray = ls at hl ⊢
  have hl : lv_has ls 5 [(0, .ref (a 0)), (1, .int w), (2, .int y), (3, .ref o)] := hl
  refine lv_aload_n hx hb dL_run_0 rfl (lv_at hl 3 rfl) ?_
  refine lv_iconst (v := 0) hx hb dL_run_1 (by decide) ?_
  refine lv_aload_n hx hb dL_run_2 rfl (lv_at hl 0 rfl) ?_
  refine lv_iload_n hx hb dL_run_3 rfl (lv_at hl 1 rfl) ?_
  refine lv_iload_n hx hb dL_run_4 rfl (lv_at hl 2 rfl) ?_
  have hPx := hP.sub (ws' := wX c0 a (n, wk, sd, bt, lt, lo, rk, ad, vl, bg, cm, sp, gd, rf, ct, rd, sm, js, sn, wl)) [1, 2, 3, 4, 5, 6, 7, 8, 9, 10, 11, 12, 13, 14] rfl
  have hDx := hD.sub (ws' := wX c0 a (n, wk, sd, bt, lt, lo, rk, ad, vl, bg, cm, sp, gd, rf, ct, rd, sm, js, sn, wl)) [1, 2, 3, 4, 5, 6, 7, 8, 9, 10, 11, 12, 13, 14] (by decide) rfl
  have hKx := hK.sub (tys' := [(c0, .int)]) [0] rfl
  have hPo := hP.sub (ws' := [(o, .inl (cL, 1, .inr (.inl g)))]) [0] rfl
  have hFx := fre hDx hS hA
  refine vx_calli (vx_runV (As := [.int w, .int y]) (rest := [.int 0, .ref o]) ⟨hx, hb, hml, hown, hts⟩ (c_X0_run l hl9 dC dI c0 a _ n wk sd bt lt lo rk ad vl bg cm sp gd rf ct rd sm js sn wl w y hn hct) (cwV 2 hts gL_run_X0_run rfl rfl rfl (by decide +kernel) ⟨(Nat.le_of_ble_eq_true rfl), (Nat.le_of_ble_eq_true rfl)⟩) ⟨PX_blind, va_recv hKx hPx (ci := 0) (q0 := 0) rfl rfl, PX_give hPx hKx hDx hE hS hFx⟩ rfl rfl hl.1 rfl (lv_room (Nat.le_of_ble_eq_true rfl)) dL_run_5 ⟨by decide, by decide⟩) hS (fun q _ h => hFx q h) hFx (fun q _ h => hFx q h) (fun E ce q9 u t H1 locs ht hvm hw hB hz1 hk1 hS hce hcv hcl => ?_) (fun r u t H1 locs ht hvm hw hB hz1 hk1 hS => ?_)
  · skip
    obtain ⟨hEE, hB⟩ := hB
    obtain ⟨hP1, -, hD1⟩ := hB
    rw [ht] at hP1
    obtain ⟨hPo, hD⟩ := jnL (Q := [(o, .inl (cL, 1, .inr (.inl g)))]) (P := wX c0 a (n, wk, sd, bt, lt, lo, rk, ad, vl, bg, cm, sp, gd, rf, ct, rd, sm, js, sn, wl)) hPo hD hk1 hD1 hFx
    have hP := hPo.app hP1
    obtain ⟨rfl, hf9⟩ := hEE
    have hP : va_P (dC, dI) vwCl (WO c0 cL a o (n, wk, sd, bt, lt, lo, rk, ad, vl, bg, cm, sp, gd, rf, ct, rd, sm, js, sn, wl) g) H1 := hP
    have hD : va_D A (WO c0 cL a o (n, wk, sd, bt, lt, lo, rk, ad, vl, bg, cm, sp, gd, rf, ct, rd, sm, js, sn, wl) g) := hD
    refine vx_catch (own := RL) (name := "java/lang/IllegalArgumentException") (E := "java/lang/IllegalArgumentException") hown [] ⟨0, 10, 13, 15⟩ [] (by rw [hTab]; rfl) (fun z hz => nomatch hz) (by decide) (by decide) (hE.t m_169 rfl) (hE.t m_248 rfl) hce hcv hcl ?_
    refine lv_astore (lv' := [(4, .ref q9), (0, .ref (a 0)), (1, .int w), (2, .int y), (3, .ref o)]) hx hb dL_run_13 hl (by decide) rfl (fun ls hl => ?_)
    refine lv_iconst (v := 1) hx hb dL_run_15 (by decide) ?_
    exact W.iret (v := 1) hx hb hr (fun t ht hW => ⟨⟨1, ((n, wk, sd, bt, lt, lo, rk, ad, vl, bg, cm, sp, gd, rf, ct, rd, sm, js, sn, wl), g), rfl, ⟨by rw [hf9], by rw [hf9], by rw [hf9]; simp⟩, by rw [ht]; exact hP, va_K.moved hW.alike hK, hD⟩, hS.F ht⟩) hS.2.2 dL_run_16
  · skip
    obtain ⟨hP1, -, hD1⟩ := hB
    rw [ht] at hP1
    obtain ⟨hPo, hD⟩ := jnL (Q := [(o, .inl (cL, 1, .inr (.inl g)))]) (P := wX c0 a (n, wk, sd, bt, lt, lo, rk, ad, vl, bg, cm, sp, gd, rf, ct, rd, sm, js, sn, wl)) hPo hD hk1 hD1 hFx
    have hP := hPo.app hP1
    have hP : va_P (dC, dI) vwCl (WO c0 cL a o u g) H1 := hP
    have hD : va_D A (WO c0 cL a o u g) := hD
    generalize H1 = H at hP hS ⊢
    refine lv_i2l hx hb dL_run_8 (v := r.toInt64) rfl ?_
    refine va_last hx hb hK hP hD hS 0 1 rfl rfl in01 dL_run_9 (fun H locs hP hD hS => ?_)
    rw [sb_cl0] at hP hD
    have hP : va_P (dC, dI) vwCl (WO c0 cL a o u (vp_updL g 0 r.toInt64)) H := hP
    have hD : va_D A (WO c0 cL a o u (vp_updL g 0 r.toInt64)) := hD
    refine lv_goto (tgt := 17) hx hb dL_run_10 (by decide) ?_
    refine lv_iconst (v := 0) hx hb dL_run_17 (by decide) ?_
    exact W.iret (v := 0) hx hb hr (fun t ht hW => ⟨⟨0, (u, vp_updL g 0 r.toInt64), rfl, ⟨by rw [hw], by rw [hw], by rw [hw]; simp⟩, by rw [ht]; exact hP, va_K.moved hW.alike hK, hD⟩, hS.F ht⟩) hS.2.2 dL_run_18
set_option maxHeartbeats 4000000 in
set_option maxRecDepth 100000 in
/-- the law's joined -/
theorem c_L_joined (l : Launch) (hl9 : l.stackTraces = false) (dC : Nat → ClassId) (dI : Nat → Nat → Nat) (c0 cL : ClassId) (o : Nat) (g : Nat → Int64) (a : Nat → Nat) (sz : Nat) (uu : xS) (hok : xok uu) : Met l yL_joined wsL_joined ({ frames := 8, cells := 1, slots := 6, locals := 128 }) (va_Pc [.ref (a 0), .ref o] (PW dC dI c0 cL a o uu g sz)) (va_Qi (fun (r : Int32) (v9 : xS × (Nat → Int64)) => r = (f_joined uu).1 ∧ v9.1 = (f_joined uu).2.2 ∧ v9.2 = if (f_joined uu).1 = 0 then vp_updL g 0 (f_joined uu).2.1 else g) (fun (v9 : xS × (Nat → Int64)) t => va_P (dC, dI) vwCl (WO c0 cL a o v9.1 v9.2) t.heap ∧ va_K (dC, dI) vwCl [(c0, .int), (cL, .long)] t ∧ va_D (va_A (WO c0 cL a o uu g) sz) (WO c0 cL a o v9.1 v9.2)) (va_A (WO c0 cL a o uu g) sz)) 1 6 (va_A (WO c0 cL a o uu g) sz) := by
  obtain ⟨n, wk, sd, bt, lt, lo, rk, ad, vl, bg, cm, sp, gd, rf, ct, rd, sm, js, sn, wl⟩ := uu
  obtain ⟨hn, hct⟩ := hok
  refine va_MetW (cc := cL_joined) (maxL := 3) (ret := (some .int)) (hh := [(0, 7, 10, 25)]) (by decide) rfl ?_
  intro p e s m args below meth c s₁ B hml hv
  obtain ⟨rfl, hsz, hP, hK, hD0, hE⟩ := hv
  have hx := B.exec
  have hb := B.bytes
  have hr := B.returns
  have hown : s.vm.findClass RL = some m.cls := findClass_of_methodNamed B.named
  have hlocks := B.notSynchronized
  have hTab : c.exceptionTable.toList = tableOf [(0, 7, 10, 25)] := vx_table (x := yL_joined) B (hE.t m_357 rfl)
  subst hsz
  have hD := hD0.self (sz := s.heap.size)
  generalize hAe : va_A (WO c0 cL a o (n, wk, sd, bt, lt, lo, rk, ad, vl, bg, cm, sp, gd, rf, ct, rd, sm, js, sn, wl) g) s.heap.size = A at hD hE ⊢
  have hts := hE.ts (args := ([.ref (a 0), .ref o] : List Value).toArray)
  have hA : ∀ q : Nat, s.heap.size ≤ q → A q := fun q h => by rw [← hAe]; exact Or.inr h
  have hS : va_S A s.heap s.heap [] := va_S.rf
  have hP : va_P (dC, dI) vwCl (WO c0 cL a o (n, wk, sd, bt, lt, lo, rk, ad, vl, bg, cm, sp, gd, rf, ct, rd, sm, js, sn, wl) g) s.heap := hP
  have hl := lv_entry ([.ref (a 0), .ref o]) (n := 3) (Nat.le_of_ble_eq_true rfl)
  rw [lg_entry_eq]
  generalize (lg_sl ([.ref (a 0), .ref o]) ++ List.replicate (3 - (lg_sl ([.ref (a 0), .ref o])).length) Slot.unset).toArray = ls at hl ⊢
  have hl : lv_has ls 3 [(0, .ref (a 0)), (1, .ref o)] := hl
  refine lv_aload_n hx hb dL_joined_0 rfl (lv_at hl 1 rfl) ?_
  refine lv_iconst (v := 0) hx hb dL_joined_1 (by decide) ?_
  refine lv_aload_n hx hb dL_joined_2 rfl (lv_at hl 0 rfl) ?_
  have hPx := hP.sub (ws' := wX c0 a (n, wk, sd, bt, lt, lo, rk, ad, vl, bg, cm, sp, gd, rf, ct, rd, sm, js, sn, wl)) [1, 2, 3, 4, 5, 6, 7, 8, 9, 10, 11, 12, 13, 14] rfl
  have hDx := hD.sub (ws' := wX c0 a (n, wk, sd, bt, lt, lo, rk, ad, vl, bg, cm, sp, gd, rf, ct, rd, sm, js, sn, wl)) [1, 2, 3, 4, 5, 6, 7, 8, 9, 10, 11, 12, 13, 14] (by decide) rfl
  have hKx := hK.sub (tys' := [(c0, .int)]) [0] rfl
  have hPo := hP.sub (ws' := [(o, .inl (cL, 1, .inr (.inl g)))]) [0] rfl
  have hFx := fre hDx hS hA
  refine vx_calll (vx_runV (As := []) (rest := [.int 0, .ref o]) ⟨hx, hb, hml, hown, hts⟩ (c_X0_joined l hl9 dC dI c0 a _ n wk sd bt lt lo rk ad vl bg cm sp gd rf ct rd sm js sn wl  hn) (cwV 0 hts gL_joined_X0_joined rfl rfl rfl (by decide +kernel) ⟨(Nat.le_of_ble_eq_true rfl), (Nat.le_of_ble_eq_true rfl)⟩) ⟨PX_blind, va_recv hKx hPx (ci := 0) (q0 := 0) rfl rfl, PX_give hPx hKx hDx hE hS hFx⟩ rfl rfl hl.1 rfl (lv_room (Nat.le_of_ble_eq_true rfl)) dL_joined_3 ⟨by decide, by decide⟩) hS (fun q _ h => hFx q h) hFx (fun q _ h => hFx q h) (fun E ce q9 u t H1 locs ht hvm hw hB hz1 hk1 hS hce hcv hcl => ?_) (fun r u t H1 locs ht hvm hw hB hz1 hk1 hS => ?_)
  · skip
    obtain ⟨hEE, hB⟩ := hB
    obtain ⟨hP1, -, hD1⟩ := hB
    rw [ht] at hP1
    obtain ⟨hPo, hD⟩ := jnL (Q := [(o, .inl (cL, 1, .inr (.inl g)))]) (P := wX c0 a (n, wk, sd, bt, lt, lo, rk, ad, vl, bg, cm, sp, gd, rf, ct, rd, sm, js, sn, wl)) hPo hD hk1 hD1 hFx
    have hP := hPo.app hP1
    obtain ⟨rfl, hf9⟩ := hEE
    have hP : va_P (dC, dI) vwCl (WO c0 cL a o (n, wk, sd, bt, lt, lo, rk, ad, vl, bg, cm, sp, gd, rf, ct, rd, sm, js, sn, wl) g) H1 := hP
    have hD : va_D A (WO c0 cL a o (n, wk, sd, bt, lt, lo, rk, ad, vl, bg, cm, sp, gd, rf, ct, rd, sm, js, sn, wl) g) := hD
    refine vx_catch (own := RL) (name := "java/lang/IllegalStateException") (E := "java/lang/IllegalStateException") hown [] ⟨0, 7, 10, 25⟩ [] (by rw [hTab]; rfl) (fun z hz => nomatch hz) (by decide) (by decide) (hE.t m_275 rfl) (hE.t m_283 rfl) hce hcv hcl ?_
    refine lv_astore_n (lv' := [(2, .ref q9), (0, .ref (a 0)), (1, .ref o)]) hx hb dL_joined_10 rfl hl (by decide) rfl (fun ls hl => ?_)
    refine lv_iconst (v := 1) hx hb dL_joined_11 (by decide) ?_
    exact W.iret (v := 1) hx hb hr (fun t ht hW => ⟨⟨1, ((n, wk, sd, bt, lt, lo, rk, ad, vl, bg, cm, sp, gd, rf, ct, rd, sm, js, sn, wl), g), rfl, ⟨by rw [hf9], by rw [hf9], by rw [hf9]; simp⟩, by rw [ht]; exact hP, va_K.moved hW.alike hK, hD⟩, hS.F ht⟩) hS.2.2 dL_joined_12
  · skip
    obtain ⟨hP1, -, hD1⟩ := hB
    rw [ht] at hP1
    obtain ⟨hPo, hD⟩ := jnL (Q := [(o, .inl (cL, 1, .inr (.inl g)))]) (P := wX c0 a (n, wk, sd, bt, lt, lo, rk, ad, vl, bg, cm, sp, gd, rf, ct, rd, sm, js, sn, wl)) hPo hD hk1 hD1 hFx
    have hP := hPo.app hP1
    have hP : va_P (dC, dI) vwCl (WO c0 cL a o u g) H1 := hP
    have hD : va_D A (WO c0 cL a o u g) := hD
    generalize H1 = H at hP hS ⊢
    refine va_last hx hb hK hP hD hS 0 1 rfl rfl in01 dL_joined_6 (fun H locs hP hD hS => ?_)
    rw [sb_cl0] at hP hD
    have hP : va_P (dC, dI) vwCl (WO c0 cL a o u (vp_updL g 0 r)) H := hP
    have hD : va_D A (WO c0 cL a o u (vp_updL g 0 r)) := hD
    refine lv_goto (tgt := 13) hx hb dL_joined_7 (by decide) ?_
    refine lv_iconst (v := 0) hx hb dL_joined_13 (by decide) ?_
    exact W.iret (v := 0) hx hb hr (fun t ht hW => ⟨⟨0, (u, vp_updL g 0 r), rfl, ⟨by rw [hw], by rw [hw], by rw [hw]; simp⟩, by rw [ht]; exact hP, va_K.moved hW.alike hK, hD⟩, hS.F ht⟩) hS.2.2 dL_joined_14
set_option maxHeartbeats 4000000 in
set_option maxRecDepth 100000 in
/-- the law's many -/
theorem c_L_many (l : Launch) (hl9 : l.stackTraces = false) (dC : Nat → ClassId) (dI : Nat → Nat → Nat) (c0 cL : ClassId) (o : Nat) (g : Nat → Int64) (a : Nat → Nat) (sz : Nat) (uu : xS) (hok : xok uu) : Met l yL_many wsL_many ({ frames := 8, cells := 1, slots := 6, locals := 128 }) (va_Pc [.ref (a 0), .ref o] (PW dC dI c0 cL a o uu g sz)) (va_Qi (fun (r : Int32) (v9 : xS × (Nat → Int64)) => r = (f_many uu).1 ∧ v9.1 = (f_many uu).2.2 ∧ v9.2 = if (f_many uu).1 = 0 then vp_updL g 0 (f_many uu).2.1 else g) (fun (v9 : xS × (Nat → Int64)) t => va_P (dC, dI) vwCl (WO c0 cL a o v9.1 v9.2) t.heap ∧ va_K (dC, dI) vwCl [(c0, .int), (cL, .long)] t ∧ va_D (va_A (WO c0 cL a o uu g) sz) (WO c0 cL a o v9.1 v9.2)) (va_A (WO c0 cL a o uu g) sz)) 1 6 (va_A (WO c0 cL a o uu g) sz) := by
  obtain ⟨n, wk, sd, bt, lt, lo, rk, ad, vl, bg, cm, sp, gd, rf, ct, rd, sm, js, sn, wl⟩ := uu
  obtain ⟨hn, hct⟩ := hok
  refine va_MetW (cc := cL_many) (maxL := 3) (ret := (some .int)) (hh := [(0, 8, 11, 25)]) (by decide) rfl ?_
  intro p e s m args below meth c s₁ B hml hv
  obtain ⟨rfl, hsz, hP, hK, hD0, hE⟩ := hv
  have hx := B.exec
  have hb := B.bytes
  have hr := B.returns
  have hown : s.vm.findClass RL = some m.cls := findClass_of_methodNamed B.named
  have hlocks := B.notSynchronized
  have hTab : c.exceptionTable.toList = tableOf [(0, 8, 11, 25)] := vx_table (x := yL_many) B (hE.t m_369 rfl)
  subst hsz
  have hD := hD0.self (sz := s.heap.size)
  generalize hAe : va_A (WO c0 cL a o (n, wk, sd, bt, lt, lo, rk, ad, vl, bg, cm, sp, gd, rf, ct, rd, sm, js, sn, wl) g) s.heap.size = A at hD hE ⊢
  have hts := hE.ts (args := ([.ref (a 0), .ref o] : List Value).toArray)
  have hA : ∀ q : Nat, s.heap.size ≤ q → A q := fun q h => by rw [← hAe]; exact Or.inr h
  have hS : va_S A s.heap s.heap [] := va_S.rf
  have hP : va_P (dC, dI) vwCl (WO c0 cL a o (n, wk, sd, bt, lt, lo, rk, ad, vl, bg, cm, sp, gd, rf, ct, rd, sm, js, sn, wl) g) s.heap := hP
  have hl := lv_entry ([.ref (a 0), .ref o]) (n := 3) (Nat.le_of_ble_eq_true rfl)
  rw [lg_entry_eq]
  generalize (lg_sl ([.ref (a 0), .ref o]) ++ List.replicate (3 - (lg_sl ([.ref (a 0), .ref o])).length) Slot.unset).toArray = ls at hl ⊢
  have hl : lv_has ls 3 [(0, .ref (a 0)), (1, .ref o)] := hl
  refine lv_aload_n hx hb dL_many_0 rfl (lv_at hl 1 rfl) ?_
  refine lv_iconst (v := 0) hx hb dL_many_1 (by decide) ?_
  refine lv_aload_n hx hb dL_many_2 rfl (lv_at hl 0 rfl) ?_
  have hPx := hP.sub (ws' := wX c0 a (n, wk, sd, bt, lt, lo, rk, ad, vl, bg, cm, sp, gd, rf, ct, rd, sm, js, sn, wl)) [1, 2, 3, 4, 5, 6, 7, 8, 9, 10, 11, 12, 13, 14] rfl
  have hDx := hD.sub (ws' := wX c0 a (n, wk, sd, bt, lt, lo, rk, ad, vl, bg, cm, sp, gd, rf, ct, rd, sm, js, sn, wl)) [1, 2, 3, 4, 5, 6, 7, 8, 9, 10, 11, 12, 13, 14] (by decide) rfl
  have hKx := hK.sub (tys' := [(c0, .int)]) [0] rfl
  have hPo := hP.sub (ws' := [(o, .inl (cL, 1, .inr (.inl g)))]) [0] rfl
  have hFx := fre hDx hS hA
  refine vx_calli (vx_runV (As := []) (rest := [.int 0, .ref o]) ⟨hx, hb, hml, hown, hts⟩ (c_X0_many l hl9 dC dI c0 a _ n wk sd bt lt lo rk ad vl bg cm sp gd rf ct rd sm js sn wl  hn) (cwV 0 hts gL_many_X0_many rfl rfl rfl (by decide +kernel) ⟨(Nat.le_of_ble_eq_true rfl), (Nat.le_of_ble_eq_true rfl)⟩) ⟨PX_blind, va_recv hKx hPx (ci := 0) (q0 := 0) rfl rfl, PX_give hPx hKx hDx hE hS hFx⟩ rfl rfl hl.1 rfl (lv_room (Nat.le_of_ble_eq_true rfl)) dL_many_3 ⟨by decide, by decide⟩) hS (fun q _ h => hFx q h) hFx (fun q _ h => hFx q h) (fun E ce q9 u t H1 locs ht hvm hw hB hz1 hk1 hS hce hcv hcl => ?_) (fun r u t H1 locs ht hvm hw hB hz1 hk1 hS => ?_)
  · skip
    obtain ⟨hEE, hB⟩ := hB
    obtain ⟨hP1, -, hD1⟩ := hB
    rw [ht] at hP1
    obtain ⟨hPo, hD⟩ := jnL (Q := [(o, .inl (cL, 1, .inr (.inl g)))]) (P := wX c0 a (n, wk, sd, bt, lt, lo, rk, ad, vl, bg, cm, sp, gd, rf, ct, rd, sm, js, sn, wl)) hPo hD hk1 hD1 hFx
    have hP := hPo.app hP1
    obtain ⟨rfl, hf9⟩ := hEE
    have hP : va_P (dC, dI) vwCl (WO c0 cL a o (n, wk, sd, bt, lt, lo, rk, ad, vl, bg, cm, sp, gd, rf, ct, rd, sm, js, sn, wl) g) H1 := hP
    have hD : va_D A (WO c0 cL a o (n, wk, sd, bt, lt, lo, rk, ad, vl, bg, cm, sp, gd, rf, ct, rd, sm, js, sn, wl) g) := hD
    refine vx_catch (own := RL) (name := "java/lang/IllegalStateException") (E := "java/lang/IllegalStateException") hown [] ⟨0, 8, 11, 25⟩ [] (by rw [hTab]; rfl) (fun z hz => nomatch hz) (by decide) (by decide) (hE.t m_275 rfl) (hE.t m_283 rfl) hce hcv hcl ?_
    refine lv_astore_n (lv' := [(2, .ref q9), (0, .ref (a 0)), (1, .ref o)]) hx hb dL_many_11 rfl hl (by decide) rfl (fun ls hl => ?_)
    refine lv_iconst (v := 1) hx hb dL_many_12 (by decide) ?_
    exact W.iret (v := 1) hx hb hr (fun t ht hW => ⟨⟨1, ((n, wk, sd, bt, lt, lo, rk, ad, vl, bg, cm, sp, gd, rf, ct, rd, sm, js, sn, wl), g), rfl, ⟨by rw [hf9], by rw [hf9], by rw [hf9]; simp⟩, by rw [ht]; exact hP, va_K.moved hW.alike hK, hD⟩, hS.F ht⟩) hS.2.2 dL_many_13
  · skip
    obtain ⟨hP1, -, hD1⟩ := hB
    rw [ht] at hP1
    obtain ⟨hPo, hD⟩ := jnL (Q := [(o, .inl (cL, 1, .inr (.inl g)))]) (P := wX c0 a (n, wk, sd, bt, lt, lo, rk, ad, vl, bg, cm, sp, gd, rf, ct, rd, sm, js, sn, wl)) hPo hD hk1 hD1 hFx
    have hP := hPo.app hP1
    have hP : va_P (dC, dI) vwCl (WO c0 cL a o u g) H1 := hP
    have hD : va_D A (WO c0 cL a o u g) := hD
    generalize H1 = H at hP hS ⊢
    refine lv_i2l hx hb dL_many_6 (v := r.toInt64) rfl ?_
    refine va_last hx hb hK hP hD hS 0 1 rfl rfl in01 dL_many_7 (fun H locs hP hD hS => ?_)
    rw [sb_cl0] at hP hD
    have hP : va_P (dC, dI) vwCl (WO c0 cL a o u (vp_updL g 0 r.toInt64)) H := hP
    have hD : va_D A (WO c0 cL a o u (vp_updL g 0 r.toInt64)) := hD
    refine lv_goto (tgt := 14) hx hb dL_many_8 (by decide) ?_
    refine lv_iconst (v := 0) hx hb dL_many_14 (by decide) ?_
    exact W.iret (v := 0) hx hb hr (fun t ht hW => ⟨⟨0, (u, vp_updL g 0 r.toInt64), rfl, ⟨by rw [hw], by rw [hw], by rw [hw]; simp⟩, by rw [ht]; exact hP, va_K.moved hW.alike hK, hD⟩, hS.F ht⟩) hS.2.2 dL_many_15
set_option maxHeartbeats 4000000 in
set_option maxRecDepth 100000 in
/-- the law's value -/
theorem c_L_value (l : Launch) (hl9 : l.stackTraces = false) (dC : Nat → ClassId) (dI : Nat → Nat → Nat) (c0 cL : ClassId) (o : Nat) (g : Nat → Int64) (a : Nat → Nat) (sz : Nat) (uu : xS) (hok : xok uu) (k : Int32) : Met l yL_value wsL_value ({ frames := 8, cells := 2, slots := 12, locals := 128 }) (va_Pc [.ref (a 0), .int k, .ref o] (PW dC dI c0 cL a o uu g sz)) (va_Qi (fun (r : Int32) (v9 : xS × (Nat → Int64)) => r = (f_value uu k).1 ∧ v9.1 = (f_value uu k).2.2 ∧ v9.2 = if (f_value uu k).1 = 0 then vp_updL g 0 (f_value uu k).2.1 else g) (fun (v9 : xS × (Nat → Int64)) t => va_P (dC, dI) vwCl (WO c0 cL a o v9.1 v9.2) t.heap ∧ va_K (dC, dI) vwCl [(c0, .int), (cL, .long)] t ∧ va_D (va_A (WO c0 cL a o uu g) sz) (WO c0 cL a o v9.1 v9.2)) (va_A (WO c0 cL a o uu g) sz)) 2 12 (va_A (WO c0 cL a o uu g) sz) := by
  obtain ⟨n, wk, sd, bt, lt, lo, rk, ad, vl, bg, cm, sp, gd, rf, ct, rd, sm, js, sn, wl⟩ := uu
  obtain ⟨hn, hct⟩ := hok
  refine va_MetW (cc := cL_value) (maxL := 4) (ret := (some .int)) (hh := [(0, 9, 12, 13), (0, 9, 15, 25)]) (by decide) rfl ?_
  intro p e s m args below meth c s₁ B hml hv
  obtain ⟨rfl, hsz, hP, hK, hD0, hE⟩ := hv
  have hx := B.exec
  have hb := B.bytes
  have hr := B.returns
  have hown : s.vm.findClass RL = some m.cls := findClass_of_methodNamed B.named
  have hlocks := B.notSynchronized
  have hTab : c.exceptionTable.toList = tableOf [(0, 9, 12, 13), (0, 9, 15, 25)] := vx_table (x := yL_value) B (hE.t m_376 rfl)
  subst hsz
  have hD := hD0.self (sz := s.heap.size)
  generalize hAe : va_A (WO c0 cL a o (n, wk, sd, bt, lt, lo, rk, ad, vl, bg, cm, sp, gd, rf, ct, rd, sm, js, sn, wl) g) s.heap.size = A at hD hE ⊢
  have hts := hE.ts (args := ([.ref (a 0), .int k, .ref o] : List Value).toArray)
  have hA : ∀ q : Nat, s.heap.size ≤ q → A q := fun q h => by rw [← hAe]; exact Or.inr h
  have hS : va_S A s.heap s.heap [] := va_S.rf
  have hP : va_P (dC, dI) vwCl (WO c0 cL a o (n, wk, sd, bt, lt, lo, rk, ad, vl, bg, cm, sp, gd, rf, ct, rd, sm, js, sn, wl) g) s.heap := hP
  have hl := lv_entry ([.ref (a 0), .int k, .ref o]) (n := 4) (Nat.le_of_ble_eq_true rfl)
  rw [lg_entry_eq]
  generalize (lg_sl ([.ref (a 0), .int k, .ref o]) ++ List.replicate (4 - (lg_sl ([.ref (a 0), .int k, .ref o])).length) Slot.unset).toArray = ls at hl ⊢
  have hl : lv_has ls 4 [(0, .ref (a 0)), (1, .int k), (2, .ref o)] := hl
  refine lv_aload_n hx hb dL_value_0 rfl (lv_at hl 2 rfl) ?_
  refine lv_iconst (v := 0) hx hb dL_value_1 (by decide) ?_
  refine lv_aload_n hx hb dL_value_2 rfl (lv_at hl 0 rfl) ?_
  refine lv_iload_n hx hb dL_value_3 rfl (lv_at hl 1 rfl) ?_
  have hPx := hP.sub (ws' := wX c0 a (n, wk, sd, bt, lt, lo, rk, ad, vl, bg, cm, sp, gd, rf, ct, rd, sm, js, sn, wl)) [1, 2, 3, 4, 5, 6, 7, 8, 9, 10, 11, 12, 13, 14] rfl
  have hDx := hD.sub (ws' := wX c0 a (n, wk, sd, bt, lt, lo, rk, ad, vl, bg, cm, sp, gd, rf, ct, rd, sm, js, sn, wl)) [1, 2, 3, 4, 5, 6, 7, 8, 9, 10, 11, 12, 13, 14] (by decide) rfl
  have hKx := hK.sub (tys' := [(c0, .int)]) [0] rfl
  have hPo := hP.sub (ws' := [(o, .inl (cL, 1, .inr (.inl g)))]) [0] rfl
  have hFx := fre hDx hS hA
  refine vx_calli (vx_runV (As := [.int k]) (rest := [.int 0, .ref o]) ⟨hx, hb, hml, hown, hts⟩ (c_X0_value l hl9 dC dI c0 a _ n wk sd bt lt lo rk ad vl bg cm sp gd rf ct rd sm js sn wl k hn) (cwV 1 hts gL_value_X0_value rfl rfl rfl (by decide +kernel) ⟨(Nat.le_of_ble_eq_true rfl), (Nat.le_of_ble_eq_true rfl)⟩) ⟨PX_blind, va_recv hKx hPx (ci := 0) (q0 := 0) rfl rfl, PX_give hPx hKx hDx hE hS hFx⟩ rfl rfl hl.1 rfl (lv_room (Nat.le_of_ble_eq_true rfl)) dL_value_4 ⟨by decide, by decide⟩) hS (fun q _ h => hFx q h) hFx (fun q _ h => hFx q h) (fun E ce q9 u t H1 locs ht hvm hw hB hz1 hk1 hS hce hcv hcl => ?_) (fun r u t H1 locs ht hvm hw hB hz1 hk1 hS => ?_)
  · skip
    obtain ⟨hEE, hB⟩ := hB
    obtain ⟨hP1, -, hD1⟩ := hB
    rw [ht] at hP1
    obtain ⟨hPo, hD⟩ := jnL (Q := [(o, .inl (cL, 1, .inr (.inl g)))]) (P := wX c0 a (n, wk, sd, bt, lt, lo, rk, ad, vl, bg, cm, sp, gd, rf, ct, rd, sm, js, sn, wl)) hPo hD hk1 hD1 hFx
    have hP := hPo.app hP1
    rcases hEE with ⟨rfl, hf9⟩ | ⟨rfl, hf9⟩
    · skip
      have hP : va_P (dC, dI) vwCl (WO c0 cL a o (n, wk, sd, bt, lt, lo, rk, ad, vl, bg, cm, sp, gd, rf, ct, rd, sm, js, sn, wl) g) H1 := hP
      have hD : va_D A (WO c0 cL a o (n, wk, sd, bt, lt, lo, rk, ad, vl, bg, cm, sp, gd, rf, ct, rd, sm, js, sn, wl) g) := hD
      refine vx_catch (own := RL) (name := "java/lang/IndexOutOfBoundsException") (E := "java/lang/IndexOutOfBoundsException") hown [] ⟨0, 9, 12, 13⟩ [⟨0, 9, 15, 25⟩] (by rw [hTab]; rfl) (fun z hz => nomatch hz) (by decide) (by decide) (hE.t m_168 rfl) (hE.t m_180 rfl) hce hcv hcl ?_
      refine lv_astore_n (lv' := [(3, .ref q9), (0, .ref (a 0)), (1, .int k), (2, .ref o)]) hx hb dL_value_12 rfl hl (by decide) rfl (fun ls hl => ?_)
      refine lv_iconst (v := 1) hx hb dL_value_13 (by decide) ?_
      exact W.iret (v := 1) hx hb hr (fun t ht hW => ⟨⟨1, ((n, wk, sd, bt, lt, lo, rk, ad, vl, bg, cm, sp, gd, rf, ct, rd, sm, js, sn, wl), g), rfl, ⟨by rw [hf9], by rw [hf9], by rw [hf9]; simp⟩, by rw [ht]; exact hP, va_K.moved hW.alike hK, hD⟩, hS.F ht⟩) hS.2.2 dL_value_14
    · skip
      have hP : va_P (dC, dI) vwCl (WO c0 cL a o (n, wk, sd, bt, lt, lo, rk, ad, vl, bg, cm, sp, gd, rf, ct, rd, sm, js, sn, wl) g) H1 := hP
      have hD : va_D A (WO c0 cL a o (n, wk, sd, bt, lt, lo, rk, ad, vl, bg, cm, sp, gd, rf, ct, rd, sm, js, sn, wl) g) := hD
      refine vx_catch (own := RL) (name := "java/lang/IllegalStateException") (E := "java/lang/IllegalStateException") hown [⟨0, 9, 12, 13⟩] ⟨0, 9, 15, 25⟩ [] (by rw [hTab]; rfl) (by
          intro z hz
          rcases List.mem_cons.mp hz with rfl | hz
          · exact Or.inr ⟨by decide, "java/lang/IndexOutOfBoundsException", hts (.classLink RL 13 "java/lang/IndexOutOfBoundsException") (by decide +kernel), hE.nc ("java/lang/IllegalStateException", "java/lang/IndexOutOfBoundsException") (by decide +kernel)⟩
          cases hz) (by decide) (by decide) (hE.t m_275 rfl) (hE.t m_283 rfl) hce hcv hcl ?_
      refine lv_astore_n (lv' := [(3, .ref q9), (0, .ref (a 0)), (1, .int k), (2, .ref o)]) hx hb dL_value_15 rfl hl (by decide) rfl (fun ls hl => ?_)
      refine lv_iconst (v := 2) hx hb dL_value_16 (by decide) ?_
      exact W.iret (v := 2) hx hb hr (fun t ht hW => ⟨⟨2, ((n, wk, sd, bt, lt, lo, rk, ad, vl, bg, cm, sp, gd, rf, ct, rd, sm, js, sn, wl), g), rfl, ⟨by rw [hf9], by rw [hf9], by rw [hf9]; simp⟩, by rw [ht]; exact hP, va_K.moved hW.alike hK, hD⟩, hS.F ht⟩) hS.2.2 dL_value_17
  · skip
    obtain ⟨hP1, -, hD1⟩ := hB
    rw [ht] at hP1
    obtain ⟨hPo, hD⟩ := jnL (Q := [(o, .inl (cL, 1, .inr (.inl g)))]) (P := wX c0 a (n, wk, sd, bt, lt, lo, rk, ad, vl, bg, cm, sp, gd, rf, ct, rd, sm, js, sn, wl)) hPo hD hk1 hD1 hFx
    have hP := hPo.app hP1
    have hP : va_P (dC, dI) vwCl (WO c0 cL a o u g) H1 := hP
    have hD : va_D A (WO c0 cL a o u g) := hD
    generalize H1 = H at hP hS ⊢
    refine lv_i2l hx hb dL_value_7 (v := r.toInt64) rfl ?_
    refine va_last hx hb hK hP hD hS 0 1 rfl rfl in01 dL_value_8 (fun H locs hP hD hS => ?_)
    rw [sb_cl0] at hP hD
    have hP : va_P (dC, dI) vwCl (WO c0 cL a o u (vp_updL g 0 r.toInt64)) H := hP
    have hD : va_D A (WO c0 cL a o u (vp_updL g 0 r.toInt64)) := hD
    refine lv_goto (tgt := 18) hx hb dL_value_9 (by decide) ?_
    refine lv_iconst (v := 0) hx hb dL_value_18 (by decide) ?_
    exact W.iret (v := 0) hx hb hr (fun t ht hW => ⟨⟨0, (u, vp_updL g 0 r.toInt64), rfl, ⟨by rw [hw], by rw [hw], by rw [hw]; simp⟩, by rw [ht]; exact hP, va_K.moved hW.alike hK, hD⟩, hS.F ht⟩) hS.2.2 dL_value_19
set_option maxHeartbeats 4000000 in
set_option maxRecDepth 100000 in
/-- the law's chain -/
theorem c_L_chain (l : Launch) (hl9 : l.stackTraces = false) (dC : Nat → ClassId) (dI : Nat → Nat → Nat) (c0 cL : ClassId) (o : Nat) (g : Nat → Int64) (a : Nat → Nat) (sz : Nat) (uu : xS) (hok : xok uu) (k : Int32) (w : Int32) : Met l yL_chain wsL_chain ({ frames := 8, cells := 2, slots := 12, locals := 128 }) (va_Pc [.ref (a 0), .int k, .int w, .ref o] (PW dC dI c0 cL a o uu g sz)) (va_Qi (fun (r : Int32) (v9 : xS × (Nat → Int64)) => r = (f_chain uu k w).1 ∧ v9.1 = (f_chain uu k w).2.2 ∧ v9.2 = if (f_chain uu k w).1 = 0 then vp_updL g 0 (f_chain uu k w).2.1 else g) (fun (v9 : xS × (Nat → Int64)) t => va_P (dC, dI) vwCl (WO c0 cL a o v9.1 v9.2) t.heap ∧ va_K (dC, dI) vwCl [(c0, .int), (cL, .long)] t ∧ va_D (va_A (WO c0 cL a o uu g) sz) (WO c0 cL a o v9.1 v9.2)) (va_A (WO c0 cL a o uu g) sz)) 2 12 (va_A (WO c0 cL a o uu g) sz) := by
  obtain ⟨n, wk, sd, bt, lt, lo, rk, ad, vl, bg, cm, sp, gd, rf, ct, rd, sm, js, sn, wl⟩ := uu
  obtain ⟨hn, hct⟩ := hok
  refine va_MetW (cc := cL_chain) (maxL := 5) (ret := (some .int)) (hh := [(0, 9, 12, 13)]) (by decide) rfl ?_
  intro p e s m args below meth c s₁ B hml hv
  obtain ⟨rfl, hsz, hP, hK, hD0, hE⟩ := hv
  have hx := B.exec
  have hb := B.bytes
  have hr := B.returns
  have hown : s.vm.findClass RL = some m.cls := findClass_of_methodNamed B.named
  have hlocks := B.notSynchronized
  have hTab : c.exceptionTable.toList = tableOf [(0, 9, 12, 13)] := vx_table (x := yL_chain) B (hE.t m_383 rfl)
  subst hsz
  have hD := hD0.self (sz := s.heap.size)
  generalize hAe : va_A (WO c0 cL a o (n, wk, sd, bt, lt, lo, rk, ad, vl, bg, cm, sp, gd, rf, ct, rd, sm, js, sn, wl) g) s.heap.size = A at hD hE ⊢
  have hts := hE.ts (args := ([.ref (a 0), .int k, .int w, .ref o] : List Value).toArray)
  have hA : ∀ q : Nat, s.heap.size ≤ q → A q := fun q h => by rw [← hAe]; exact Or.inr h
  have hS : va_S A s.heap s.heap [] := va_S.rf
  have hP : va_P (dC, dI) vwCl (WO c0 cL a o (n, wk, sd, bt, lt, lo, rk, ad, vl, bg, cm, sp, gd, rf, ct, rd, sm, js, sn, wl) g) s.heap := hP
  have hl := lv_entry ([.ref (a 0), .int k, .int w, .ref o]) (n := 5) (Nat.le_of_ble_eq_true rfl)
  rw [lg_entry_eq]
  generalize (lg_sl ([.ref (a 0), .int k, .int w, .ref o]) ++ List.replicate (5 - (lg_sl ([.ref (a 0), .int k, .int w, .ref o])).length) Slot.unset).toArray = ls at hl ⊢
  have hl : lv_has ls 5 [(0, .ref (a 0)), (1, .int k), (2, .int w), (3, .ref o)] := hl
  refine lv_aload_n hx hb dL_chain_0 rfl (lv_at hl 3 rfl) ?_
  refine lv_iconst (v := 0) hx hb dL_chain_1 (by decide) ?_
  refine lv_aload_n hx hb dL_chain_2 rfl (lv_at hl 0 rfl) ?_
  refine lv_iload_n hx hb dL_chain_3 rfl (lv_at hl 1 rfl) ?_
  refine lv_iload_n hx hb dL_chain_4 rfl (lv_at hl 2 rfl) ?_
  have hPx := hP.sub (ws' := wX c0 a (n, wk, sd, bt, lt, lo, rk, ad, vl, bg, cm, sp, gd, rf, ct, rd, sm, js, sn, wl)) [1, 2, 3, 4, 5, 6, 7, 8, 9, 10, 11, 12, 13, 14] rfl
  have hDx := hD.sub (ws' := wX c0 a (n, wk, sd, bt, lt, lo, rk, ad, vl, bg, cm, sp, gd, rf, ct, rd, sm, js, sn, wl)) [1, 2, 3, 4, 5, 6, 7, 8, 9, 10, 11, 12, 13, 14] (by decide) rfl
  have hKx := hK.sub (tys' := [(c0, .int)]) [0] rfl
  have hPo := hP.sub (ws' := [(o, .inl (cL, 1, .inr (.inl g)))]) [0] rfl
  have hFx := fre hDx hS hA
  refine vx_calll (vx_runV (As := [.int k, .int w]) (rest := [.int 0, .ref o]) ⟨hx, hb, hml, hown, hts⟩ (c_X0_chain l hl9 dC dI c0 a _ n wk sd bt lt lo rk ad vl bg cm sp gd rf ct rd sm js sn wl k w hn) (cwV 2 hts gL_chain_X0_chain rfl rfl rfl (by decide +kernel) ⟨(Nat.le_of_ble_eq_true rfl), (Nat.le_of_ble_eq_true rfl)⟩) ⟨PX_blind, va_recv hKx hPx (ci := 0) (q0 := 0) rfl rfl, PX_give hPx hKx hDx hE hS hFx⟩ rfl rfl hl.1 rfl (lv_room (Nat.le_of_ble_eq_true rfl)) dL_chain_5 ⟨by decide, by decide⟩) hS (fun q _ h => hFx q h) hFx (fun q _ h => hFx q h) (fun E ce q9 u t H1 locs ht hvm hw hB hz1 hk1 hS hce hcv hcl => ?_) (fun r u t H1 locs ht hvm hw hB hz1 hk1 hS => ?_)
  · skip
    obtain ⟨hEE, hB⟩ := hB
    obtain ⟨hP1, -, hD1⟩ := hB
    rw [ht] at hP1
    obtain ⟨hPo, hD⟩ := jnL (Q := [(o, .inl (cL, 1, .inr (.inl g)))]) (P := wX c0 a (n, wk, sd, bt, lt, lo, rk, ad, vl, bg, cm, sp, gd, rf, ct, rd, sm, js, sn, wl)) hPo hD hk1 hD1 hFx
    have hP := hPo.app hP1
    obtain ⟨rfl, hf9⟩ := hEE
    have hP : va_P (dC, dI) vwCl (WO c0 cL a o (n, wk, sd, bt, lt, lo, rk, ad, vl, bg, cm, sp, gd, rf, ct, rd, sm, js, sn, wl) g) H1 := hP
    have hD : va_D A (WO c0 cL a o (n, wk, sd, bt, lt, lo, rk, ad, vl, bg, cm, sp, gd, rf, ct, rd, sm, js, sn, wl) g) := hD
    refine vx_catch (own := RL) (name := "java/lang/IndexOutOfBoundsException") (E := "java/lang/IndexOutOfBoundsException") hown [] ⟨0, 9, 12, 13⟩ [] (by rw [hTab]; rfl) (fun z hz => nomatch hz) (by decide) (by decide) (hE.t m_168 rfl) (hE.t m_180 rfl) hce hcv hcl ?_
    refine lv_astore (lv' := [(4, .ref q9), (0, .ref (a 0)), (1, .int k), (2, .int w), (3, .ref o)]) hx hb dL_chain_12 hl (by decide) rfl (fun ls hl => ?_)
    refine lv_iconst (v := 1) hx hb dL_chain_14 (by decide) ?_
    exact W.iret (v := 1) hx hb hr (fun t ht hW => ⟨⟨1, ((n, wk, sd, bt, lt, lo, rk, ad, vl, bg, cm, sp, gd, rf, ct, rd, sm, js, sn, wl), g), rfl, ⟨by rw [hf9], by rw [hf9], by rw [hf9]; simp⟩, by rw [ht]; exact hP, va_K.moved hW.alike hK, hD⟩, hS.F ht⟩) hS.2.2 dL_chain_15
  · skip
    obtain ⟨hP1, -, hD1⟩ := hB
    rw [ht] at hP1
    obtain ⟨hPo, hD⟩ := jnL (Q := [(o, .inl (cL, 1, .inr (.inl g)))]) (P := wX c0 a (n, wk, sd, bt, lt, lo, rk, ad, vl, bg, cm, sp, gd, rf, ct, rd, sm, js, sn, wl)) hPo hD hk1 hD1 hFx
    have hP := hPo.app hP1
    have hP : va_P (dC, dI) vwCl (WO c0 cL a o u g) H1 := hP
    have hD : va_D A (WO c0 cL a o u g) := hD
    generalize H1 = H at hP hS ⊢
    refine va_last hx hb hK hP hD hS 0 1 rfl rfl in01 dL_chain_8 (fun H locs hP hD hS => ?_)
    rw [sb_cl0] at hP hD
    have hP : va_P (dC, dI) vwCl (WO c0 cL a o u (vp_updL g 0 r)) H := hP
    have hD : va_D A (WO c0 cL a o u (vp_updL g 0 r)) := hD
    refine lv_goto (tgt := 16) hx hb dL_chain_9 (by decide) ?_
    refine lv_iconst (v := 0) hx hb dL_chain_16 (by decide) ?_
    exact W.iret (v := 0) hx hb hr (fun t ht hW => ⟨⟨0, (u, vp_updL g 0 r), rfl, ⟨by rw [hw], by rw [hw], by rw [hw]; simp⟩, by rw [ht]; exact hP, va_K.moved hW.alike hK, hD⟩, hS.F ht⟩) hS.2.2 dL_chain_17
set_option maxHeartbeats 4000000 in
set_option maxRecDepth 100000 in
/-- the law's came -/
theorem c_L_came (l : Launch) (hl9 : l.stackTraces = false) (dC : Nat → ClassId) (dI : Nat → Nat → Nat) (c0 cL : ClassId) (o : Nat) (g : Nat → Int64) (a : Nat → Nat) (sz : Nat) (uu : xS) (hok : xok uu) (k : Int32) : Met l yL_came wsL_came ({ frames := 8, cells := 2, slots := 12, locals := 128 }) (va_Pc [.ref (a 0), .int k, .ref o] (PW dC dI c0 cL a o uu g sz)) (va_Qi (fun (r : Int32) (v9 : xS × (Nat → Int64)) => r = (f_came uu k).1 ∧ v9.1 = (f_came uu k).2.2 ∧ v9.2 = if (f_came uu k).1 = 0 then vp_updL g 0 (f_came uu k).2.1 else g) (fun (v9 : xS × (Nat → Int64)) t => va_P (dC, dI) vwCl (WO c0 cL a o v9.1 v9.2) t.heap ∧ va_K (dC, dI) vwCl [(c0, .int), (cL, .long)] t ∧ va_D (va_A (WO c0 cL a o uu g) sz) (WO c0 cL a o v9.1 v9.2)) (va_A (WO c0 cL a o uu g) sz)) 2 12 (va_A (WO c0 cL a o uu g) sz) := by
  obtain ⟨n, wk, sd, bt, lt, lo, rk, ad, vl, bg, cm, sp, gd, rf, ct, rd, sm, js, sn, wl⟩ := uu
  obtain ⟨hn, hct⟩ := hok
  refine va_MetW (cc := cL_came) (maxL := 4) (ret := (some .int)) (hh := [(0, 9, 12, 13), (0, 9, 15, 25)]) (by decide) rfl ?_
  intro p e s m args below meth c s₁ B hml hv
  obtain ⟨rfl, hsz, hP, hK, hD0, hE⟩ := hv
  have hx := B.exec
  have hb := B.bytes
  have hr := B.returns
  have hown : s.vm.findClass RL = some m.cls := findClass_of_methodNamed B.named
  have hlocks := B.notSynchronized
  have hTab : c.exceptionTable.toList = tableOf [(0, 9, 12, 13), (0, 9, 15, 25)] := vx_table (x := yL_came) B (hE.t m_392 rfl)
  subst hsz
  have hD := hD0.self (sz := s.heap.size)
  generalize hAe : va_A (WO c0 cL a o (n, wk, sd, bt, lt, lo, rk, ad, vl, bg, cm, sp, gd, rf, ct, rd, sm, js, sn, wl) g) s.heap.size = A at hD hE ⊢
  have hts := hE.ts (args := ([.ref (a 0), .int k, .ref o] : List Value).toArray)
  have hA : ∀ q : Nat, s.heap.size ≤ q → A q := fun q h => by rw [← hAe]; exact Or.inr h
  have hS : va_S A s.heap s.heap [] := va_S.rf
  have hP : va_P (dC, dI) vwCl (WO c0 cL a o (n, wk, sd, bt, lt, lo, rk, ad, vl, bg, cm, sp, gd, rf, ct, rd, sm, js, sn, wl) g) s.heap := hP
  have hl := lv_entry ([.ref (a 0), .int k, .ref o]) (n := 4) (Nat.le_of_ble_eq_true rfl)
  rw [lg_entry_eq]
  generalize (lg_sl ([.ref (a 0), .int k, .ref o]) ++ List.replicate (4 - (lg_sl ([.ref (a 0), .int k, .ref o])).length) Slot.unset).toArray = ls at hl ⊢
  have hl : lv_has ls 4 [(0, .ref (a 0)), (1, .int k), (2, .ref o)] := hl
  refine lv_aload_n hx hb dL_came_0 rfl (lv_at hl 2 rfl) ?_
  refine lv_iconst (v := 0) hx hb dL_came_1 (by decide) ?_
  refine lv_aload_n hx hb dL_came_2 rfl (lv_at hl 0 rfl) ?_
  refine lv_iload_n hx hb dL_came_3 rfl (lv_at hl 1 rfl) ?_
  have hPx := hP.sub (ws' := wX c0 a (n, wk, sd, bt, lt, lo, rk, ad, vl, bg, cm, sp, gd, rf, ct, rd, sm, js, sn, wl)) [1, 2, 3, 4, 5, 6, 7, 8, 9, 10, 11, 12, 13, 14] rfl
  have hDx := hD.sub (ws' := wX c0 a (n, wk, sd, bt, lt, lo, rk, ad, vl, bg, cm, sp, gd, rf, ct, rd, sm, js, sn, wl)) [1, 2, 3, 4, 5, 6, 7, 8, 9, 10, 11, 12, 13, 14] (by decide) rfl
  have hKx := hK.sub (tys' := [(c0, .int)]) [0] rfl
  have hPo := hP.sub (ws' := [(o, .inl (cL, 1, .inr (.inl g)))]) [0] rfl
  have hFx := fre hDx hS hA
  refine vx_calli (vx_runV (As := [.int k]) (rest := [.int 0, .ref o]) ⟨hx, hb, hml, hown, hts⟩ (c_X0_came l hl9 dC dI c0 a _ n wk sd bt lt lo rk ad vl bg cm sp gd rf ct rd sm js sn wl k hn hct) (cwV 1 hts gL_came_X0_came rfl rfl rfl (by decide +kernel) ⟨(Nat.le_of_ble_eq_true rfl), (Nat.le_of_ble_eq_true rfl)⟩) ⟨PX_blind, va_recv hKx hPx (ci := 0) (q0 := 0) rfl rfl, PX_give hPx hKx hDx hE hS hFx⟩ rfl rfl hl.1 rfl (lv_room (Nat.le_of_ble_eq_true rfl)) dL_came_4 ⟨by decide, by decide⟩) hS (fun q _ h => hFx q h) hFx (fun q _ h => hFx q h) (fun E ce q9 u t H1 locs ht hvm hw hB hz1 hk1 hS hce hcv hcl => ?_) (fun r u t H1 locs ht hvm hw hB hz1 hk1 hS => ?_)
  · skip
    obtain ⟨hEE, hB⟩ := hB
    obtain ⟨hP1, -, hD1⟩ := hB
    rw [ht] at hP1
    obtain ⟨hPo, hD⟩ := jnL (Q := [(o, .inl (cL, 1, .inr (.inl g)))]) (P := wX c0 a (n, wk, sd, bt, lt, lo, rk, ad, vl, bg, cm, sp, gd, rf, ct, rd, sm, js, sn, wl)) hPo hD hk1 hD1 hFx
    have hP := hPo.app hP1
    rcases hEE with ⟨rfl, hf9⟩ | ⟨rfl, hf9⟩
    · skip
      have hP : va_P (dC, dI) vwCl (WO c0 cL a o (n, wk, sd, bt, lt, lo, rk, ad, vl, bg, cm, sp, gd, rf, ct, rd, sm, js, sn, wl) g) H1 := hP
      have hD : va_D A (WO c0 cL a o (n, wk, sd, bt, lt, lo, rk, ad, vl, bg, cm, sp, gd, rf, ct, rd, sm, js, sn, wl) g) := hD
      refine vx_catch (own := RL) (name := "java/lang/IndexOutOfBoundsException") (E := "java/lang/IndexOutOfBoundsException") hown [] ⟨0, 9, 12, 13⟩ [⟨0, 9, 15, 25⟩] (by rw [hTab]; rfl) (fun z hz => nomatch hz) (by decide) (by decide) (hE.t m_168 rfl) (hE.t m_180 rfl) hce hcv hcl ?_
      refine lv_astore_n (lv' := [(3, .ref q9), (0, .ref (a 0)), (1, .int k), (2, .ref o)]) hx hb dL_came_12 rfl hl (by decide) rfl (fun ls hl => ?_)
      refine lv_iconst (v := 1) hx hb dL_came_13 (by decide) ?_
      exact W.iret (v := 1) hx hb hr (fun t ht hW => ⟨⟨1, ((n, wk, sd, bt, lt, lo, rk, ad, vl, bg, cm, sp, gd, rf, ct, rd, sm, js, sn, wl), g), rfl, ⟨by rw [hf9], by rw [hf9], by rw [hf9]; simp⟩, by rw [ht]; exact hP, va_K.moved hW.alike hK, hD⟩, hS.F ht⟩) hS.2.2 dL_came_14
    · skip
      have hP : va_P (dC, dI) vwCl (WO c0 cL a o (n, wk, sd, bt, lt, lo, rk, ad, vl, bg, cm, sp, gd, rf, ct, rd, sm, js, sn, wl) g) H1 := hP
      have hD : va_D A (WO c0 cL a o (n, wk, sd, bt, lt, lo, rk, ad, vl, bg, cm, sp, gd, rf, ct, rd, sm, js, sn, wl) g) := hD
      refine vx_catch (own := RL) (name := "java/lang/IllegalStateException") (E := "java/lang/IllegalStateException") hown [⟨0, 9, 12, 13⟩] ⟨0, 9, 15, 25⟩ [] (by rw [hTab]; rfl) (by
          intro z hz
          rcases List.mem_cons.mp hz with rfl | hz
          · exact Or.inr ⟨by decide, "java/lang/IndexOutOfBoundsException", hts (.classLink RL 13 "java/lang/IndexOutOfBoundsException") (by decide +kernel), hE.nc ("java/lang/IllegalStateException", "java/lang/IndexOutOfBoundsException") (by decide +kernel)⟩
          cases hz) (by decide) (by decide) (hE.t m_275 rfl) (hE.t m_283 rfl) hce hcv hcl ?_
      refine lv_astore_n (lv' := [(3, .ref q9), (0, .ref (a 0)), (1, .int k), (2, .ref o)]) hx hb dL_came_15 rfl hl (by decide) rfl (fun ls hl => ?_)
      refine lv_iconst (v := 2) hx hb dL_came_16 (by decide) ?_
      exact W.iret (v := 2) hx hb hr (fun t ht hW => ⟨⟨2, ((n, wk, sd, bt, lt, lo, rk, ad, vl, bg, cm, sp, gd, rf, ct, rd, sm, js, sn, wl), g), rfl, ⟨by rw [hf9], by rw [hf9], by rw [hf9]; simp⟩, by rw [ht]; exact hP, va_K.moved hW.alike hK, hD⟩, hS.F ht⟩) hS.2.2 dL_came_17
  · skip
    obtain ⟨hP1, -, hD1⟩ := hB
    rw [ht] at hP1
    obtain ⟨hPo, hD⟩ := jnL (Q := [(o, .inl (cL, 1, .inr (.inl g)))]) (P := wX c0 a (n, wk, sd, bt, lt, lo, rk, ad, vl, bg, cm, sp, gd, rf, ct, rd, sm, js, sn, wl)) hPo hD hk1 hD1 hFx
    have hP := hPo.app hP1
    have hP : va_P (dC, dI) vwCl (WO c0 cL a o u g) H1 := hP
    have hD : va_D A (WO c0 cL a o u g) := hD
    generalize H1 = H at hP hS ⊢
    refine lv_i2l hx hb dL_came_7 (v := r.toInt64) rfl ?_
    refine va_last hx hb hK hP hD hS 0 1 rfl rfl in01 dL_came_8 (fun H locs hP hD hS => ?_)
    rw [sb_cl0] at hP hD
    have hP : va_P (dC, dI) vwCl (WO c0 cL a o u (vp_updL g 0 r.toInt64)) H := hP
    have hD : va_D A (WO c0 cL a o u (vp_updL g 0 r.toInt64)) := hD
    refine lv_goto (tgt := 18) hx hb dL_came_9 (by decide) ?_
    refine lv_iconst (v := 0) hx hb dL_came_18 (by decide) ?_
    exact W.iret (v := 0) hx hb hr (fun t ht hW => ⟨⟨0, (u, vp_updL g 0 r.toInt64), rfl, ⟨by rw [hw], by rw [hw], by rw [hw]; simp⟩, by rw [ht]; exact hP, va_K.moved hW.alike hK, hD⟩, hS.F ht⟩) hS.2.2 dL_came_19
set_option maxHeartbeats 4000000 in
set_option maxRecDepth 100000 in
/-- the law's begun -/
theorem c_L_begun (l : Launch) (hl9 : l.stackTraces = false) (dC : Nat → ClassId) (dI : Nat → Nat → Nat) (c0 cL : ClassId) (o : Nat) (g : Nat → Int64) (a : Nat → Nat) (sz : Nat) (uu : xS) (hok : xok uu) (k : Int32) : Met l yL_begun wsL_begun ({ frames := 8, cells := 2, slots := 12, locals := 128 }) (va_Pc [.ref (a 0), .int k, .ref o] (PW dC dI c0 cL a o uu g sz)) (va_Qi (fun (r : Int32) (v9 : xS × (Nat → Int64)) => r = (f_begun uu k).1 ∧ v9.1 = (f_begun uu k).2.2 ∧ v9.2 = if (f_begun uu k).1 = 0 then vp_updL g 0 (f_begun uu k).2.1 else g) (fun (v9 : xS × (Nat → Int64)) t => va_P (dC, dI) vwCl (WO c0 cL a o v9.1 v9.2) t.heap ∧ va_K (dC, dI) vwCl [(c0, .int), (cL, .long)] t ∧ va_D (va_A (WO c0 cL a o uu g) sz) (WO c0 cL a o v9.1 v9.2)) (va_A (WO c0 cL a o uu g) sz)) 2 12 (va_A (WO c0 cL a o uu g) sz) := by
  obtain ⟨n, wk, sd, bt, lt, lo, rk, ad, vl, bg, cm, sp, gd, rf, ct, rd, sm, js, sn, wl⟩ := uu
  obtain ⟨hn, hct⟩ := hok
  refine va_MetW (cc := cL_begun) (maxL := 4) (ret := (some .int)) (hh := [(0, 9, 12, 13), (0, 9, 15, 25)]) (by decide) rfl ?_
  intro p e s m args below meth c s₁ B hml hv
  obtain ⟨rfl, hsz, hP, hK, hD0, hE⟩ := hv
  have hx := B.exec
  have hb := B.bytes
  have hr := B.returns
  have hown : s.vm.findClass RL = some m.cls := findClass_of_methodNamed B.named
  have hlocks := B.notSynchronized
  have hTab : c.exceptionTable.toList = tableOf [(0, 9, 12, 13), (0, 9, 15, 25)] := vx_table (x := yL_begun) B (hE.t m_400 rfl)
  subst hsz
  have hD := hD0.self (sz := s.heap.size)
  generalize hAe : va_A (WO c0 cL a o (n, wk, sd, bt, lt, lo, rk, ad, vl, bg, cm, sp, gd, rf, ct, rd, sm, js, sn, wl) g) s.heap.size = A at hD hE ⊢
  have hts := hE.ts (args := ([.ref (a 0), .int k, .ref o] : List Value).toArray)
  have hA : ∀ q : Nat, s.heap.size ≤ q → A q := fun q h => by rw [← hAe]; exact Or.inr h
  have hS : va_S A s.heap s.heap [] := va_S.rf
  have hP : va_P (dC, dI) vwCl (WO c0 cL a o (n, wk, sd, bt, lt, lo, rk, ad, vl, bg, cm, sp, gd, rf, ct, rd, sm, js, sn, wl) g) s.heap := hP
  have hl := lv_entry ([.ref (a 0), .int k, .ref o]) (n := 4) (Nat.le_of_ble_eq_true rfl)
  rw [lg_entry_eq]
  generalize (lg_sl ([.ref (a 0), .int k, .ref o]) ++ List.replicate (4 - (lg_sl ([.ref (a 0), .int k, .ref o])).length) Slot.unset).toArray = ls at hl ⊢
  have hl : lv_has ls 4 [(0, .ref (a 0)), (1, .int k), (2, .ref o)] := hl
  refine lv_aload_n hx hb dL_begun_0 rfl (lv_at hl 2 rfl) ?_
  refine lv_iconst (v := 0) hx hb dL_begun_1 (by decide) ?_
  refine lv_aload_n hx hb dL_begun_2 rfl (lv_at hl 0 rfl) ?_
  refine lv_iload_n hx hb dL_begun_3 rfl (lv_at hl 1 rfl) ?_
  have hPx := hP.sub (ws' := wX c0 a (n, wk, sd, bt, lt, lo, rk, ad, vl, bg, cm, sp, gd, rf, ct, rd, sm, js, sn, wl)) [1, 2, 3, 4, 5, 6, 7, 8, 9, 10, 11, 12, 13, 14] rfl
  have hDx := hD.sub (ws' := wX c0 a (n, wk, sd, bt, lt, lo, rk, ad, vl, bg, cm, sp, gd, rf, ct, rd, sm, js, sn, wl)) [1, 2, 3, 4, 5, 6, 7, 8, 9, 10, 11, 12, 13, 14] (by decide) rfl
  have hKx := hK.sub (tys' := [(c0, .int)]) [0] rfl
  have hPo := hP.sub (ws' := [(o, .inl (cL, 1, .inr (.inl g)))]) [0] rfl
  have hFx := fre hDx hS hA
  refine vx_calli (vx_runV (As := [.int k]) (rest := [.int 0, .ref o]) ⟨hx, hb, hml, hown, hts⟩ (c_X0_begun l hl9 dC dI c0 a _ n wk sd bt lt lo rk ad vl bg cm sp gd rf ct rd sm js sn wl k hn) (cwV 1 hts gL_begun_X0_begun rfl rfl rfl (by decide +kernel) ⟨(Nat.le_of_ble_eq_true rfl), (Nat.le_of_ble_eq_true rfl)⟩) ⟨PX_blind, va_recv hKx hPx (ci := 0) (q0 := 0) rfl rfl, PX_give hPx hKx hDx hE hS hFx⟩ rfl rfl hl.1 rfl (lv_room (Nat.le_of_ble_eq_true rfl)) dL_begun_4 ⟨by decide, by decide⟩) hS (fun q _ h => hFx q h) hFx (fun q _ h => hFx q h) (fun E ce q9 u t H1 locs ht hvm hw hB hz1 hk1 hS hce hcv hcl => ?_) (fun r u t H1 locs ht hvm hw hB hz1 hk1 hS => ?_)
  · skip
    obtain ⟨hEE, hB⟩ := hB
    obtain ⟨hP1, -, hD1⟩ := hB
    rw [ht] at hP1
    obtain ⟨hPo, hD⟩ := jnL (Q := [(o, .inl (cL, 1, .inr (.inl g)))]) (P := wX c0 a (n, wk, sd, bt, lt, lo, rk, ad, vl, bg, cm, sp, gd, rf, ct, rd, sm, js, sn, wl)) hPo hD hk1 hD1 hFx
    have hP := hPo.app hP1
    rcases hEE with ⟨rfl, hf9⟩ | ⟨rfl, hf9⟩
    · skip
      have hP : va_P (dC, dI) vwCl (WO c0 cL a o (n, wk, sd, bt, lt, lo, rk, ad, vl, bg, cm, sp, gd, rf, ct, rd, sm, js, sn, wl) g) H1 := hP
      have hD : va_D A (WO c0 cL a o (n, wk, sd, bt, lt, lo, rk, ad, vl, bg, cm, sp, gd, rf, ct, rd, sm, js, sn, wl) g) := hD
      refine vx_catch (own := RL) (name := "java/lang/IndexOutOfBoundsException") (E := "java/lang/IndexOutOfBoundsException") hown [] ⟨0, 9, 12, 13⟩ [⟨0, 9, 15, 25⟩] (by rw [hTab]; rfl) (fun z hz => nomatch hz) (by decide) (by decide) (hE.t m_168 rfl) (hE.t m_180 rfl) hce hcv hcl ?_
      refine lv_astore_n (lv' := [(3, .ref q9), (0, .ref (a 0)), (1, .int k), (2, .ref o)]) hx hb dL_begun_12 rfl hl (by decide) rfl (fun ls hl => ?_)
      refine lv_iconst (v := 1) hx hb dL_begun_13 (by decide) ?_
      exact W.iret (v := 1) hx hb hr (fun t ht hW => ⟨⟨1, ((n, wk, sd, bt, lt, lo, rk, ad, vl, bg, cm, sp, gd, rf, ct, rd, sm, js, sn, wl), g), rfl, ⟨by rw [hf9], by rw [hf9], by rw [hf9]; simp⟩, by rw [ht]; exact hP, va_K.moved hW.alike hK, hD⟩, hS.F ht⟩) hS.2.2 dL_begun_14
    · skip
      have hP : va_P (dC, dI) vwCl (WO c0 cL a o (n, wk, sd, bt, lt, lo, rk, ad, vl, bg, cm, sp, gd, rf, ct, rd, sm, js, sn, wl) g) H1 := hP
      have hD : va_D A (WO c0 cL a o (n, wk, sd, bt, lt, lo, rk, ad, vl, bg, cm, sp, gd, rf, ct, rd, sm, js, sn, wl) g) := hD
      refine vx_catch (own := RL) (name := "java/lang/IllegalStateException") (E := "java/lang/IllegalStateException") hown [⟨0, 9, 12, 13⟩] ⟨0, 9, 15, 25⟩ [] (by rw [hTab]; rfl) (by
          intro z hz
          rcases List.mem_cons.mp hz with rfl | hz
          · exact Or.inr ⟨by decide, "java/lang/IndexOutOfBoundsException", hts (.classLink RL 13 "java/lang/IndexOutOfBoundsException") (by decide +kernel), hE.nc ("java/lang/IllegalStateException", "java/lang/IndexOutOfBoundsException") (by decide +kernel)⟩
          cases hz) (by decide) (by decide) (hE.t m_275 rfl) (hE.t m_283 rfl) hce hcv hcl ?_
      refine lv_astore_n (lv' := [(3, .ref q9), (0, .ref (a 0)), (1, .int k), (2, .ref o)]) hx hb dL_begun_15 rfl hl (by decide) rfl (fun ls hl => ?_)
      refine lv_iconst (v := 2) hx hb dL_begun_16 (by decide) ?_
      exact W.iret (v := 2) hx hb hr (fun t ht hW => ⟨⟨2, ((n, wk, sd, bt, lt, lo, rk, ad, vl, bg, cm, sp, gd, rf, ct, rd, sm, js, sn, wl), g), rfl, ⟨by rw [hf9], by rw [hf9], by rw [hf9]; simp⟩, by rw [ht]; exact hP, va_K.moved hW.alike hK, hD⟩, hS.F ht⟩) hS.2.2 dL_begun_17
  · skip
    obtain ⟨hP1, -, hD1⟩ := hB
    rw [ht] at hP1
    obtain ⟨hPo, hD⟩ := jnL (Q := [(o, .inl (cL, 1, .inr (.inl g)))]) (P := wX c0 a (n, wk, sd, bt, lt, lo, rk, ad, vl, bg, cm, sp, gd, rf, ct, rd, sm, js, sn, wl)) hPo hD hk1 hD1 hFx
    have hP := hPo.app hP1
    have hP : va_P (dC, dI) vwCl (WO c0 cL a o u g) H1 := hP
    have hD : va_D A (WO c0 cL a o u g) := hD
    generalize H1 = H at hP hS ⊢
    refine lv_i2l hx hb dL_begun_7 (v := r.toInt64) rfl ?_
    refine va_last hx hb hK hP hD hS 0 1 rfl rfl in01 dL_begun_8 (fun H locs hP hD hS => ?_)
    rw [sb_cl0] at hP hD
    have hP : va_P (dC, dI) vwCl (WO c0 cL a o u (vp_updL g 0 r.toInt64)) H := hP
    have hD : va_D A (WO c0 cL a o u (vp_updL g 0 r.toInt64)) := hD
    refine lv_goto (tgt := 18) hx hb dL_begun_9 (by decide) ?_
    refine lv_iconst (v := 0) hx hb dL_begun_18 (by decide) ?_
    exact W.iret (v := 0) hx hb hr (fun t ht hW => ⟨⟨0, (u, vp_updL g 0 r.toInt64), rfl, ⟨by rw [hw], by rw [hw], by rw [hw]; simp⟩, by rw [ht]; exact hP, va_K.moved hW.alike hK, hD⟩, hS.F ht⟩) hS.2.2 dL_begun_19
set_option maxHeartbeats 4000000 in
set_option maxRecDepth 100000 in
/-- the law's steps -/
theorem c_L_steps (l : Launch) (hl9 : l.stackTraces = false) (dC : Nat → ClassId) (dI : Nat → Nat → Nat) (c0 cL : ClassId) (o : Nat) (g : Nat → Int64) (a : Nat → Nat) (sz : Nat) (uu : xS) (hok : xok uu) (k : Int32) : Met l yL_steps wsL_steps ({ frames := 8, cells := 2, slots := 12, locals := 128 }) (va_Pc [.ref (a 0), .int k, .ref o] (PW dC dI c0 cL a o uu g sz)) (va_Qi (fun (r : Int32) (v9 : xS × (Nat → Int64)) => r = (f_steps uu k).1 ∧ v9.1 = (f_steps uu k).2.2 ∧ v9.2 = if (f_steps uu k).1 = 0 then vp_updL g 0 (f_steps uu k).2.1 else g) (fun (v9 : xS × (Nat → Int64)) t => va_P (dC, dI) vwCl (WO c0 cL a o v9.1 v9.2) t.heap ∧ va_K (dC, dI) vwCl [(c0, .int), (cL, .long)] t ∧ va_D (va_A (WO c0 cL a o uu g) sz) (WO c0 cL a o v9.1 v9.2)) (va_A (WO c0 cL a o uu g) sz)) 2 12 (va_A (WO c0 cL a o uu g) sz) := by
  obtain ⟨n, wk, sd, bt, lt, lo, rk, ad, vl, bg, cm, sp, gd, rf, ct, rd, sm, js, sn, wl⟩ := uu
  obtain ⟨hn, hct⟩ := hok
  refine va_MetW (cc := cL_steps) (maxL := 4) (ret := (some .int)) (hh := [(0, 9, 12, 13), (0, 9, 15, 25)]) (by decide) rfl ?_
  intro p e s m args below meth c s₁ B hml hv
  obtain ⟨rfl, hsz, hP, hK, hD0, hE⟩ := hv
  have hx := B.exec
  have hb := B.bytes
  have hr := B.returns
  have hown : s.vm.findClass RL = some m.cls := findClass_of_methodNamed B.named
  have hlocks := B.notSynchronized
  have hTab : c.exceptionTable.toList = tableOf [(0, 9, 12, 13), (0, 9, 15, 25)] := vx_table (x := yL_steps) B (hE.t m_407 rfl)
  subst hsz
  have hD := hD0.self (sz := s.heap.size)
  generalize hAe : va_A (WO c0 cL a o (n, wk, sd, bt, lt, lo, rk, ad, vl, bg, cm, sp, gd, rf, ct, rd, sm, js, sn, wl) g) s.heap.size = A at hD hE ⊢
  have hts := hE.ts (args := ([.ref (a 0), .int k, .ref o] : List Value).toArray)
  have hA : ∀ q : Nat, s.heap.size ≤ q → A q := fun q h => by rw [← hAe]; exact Or.inr h
  have hS : va_S A s.heap s.heap [] := va_S.rf
  have hP : va_P (dC, dI) vwCl (WO c0 cL a o (n, wk, sd, bt, lt, lo, rk, ad, vl, bg, cm, sp, gd, rf, ct, rd, sm, js, sn, wl) g) s.heap := hP
  have hl := lv_entry ([.ref (a 0), .int k, .ref o]) (n := 4) (Nat.le_of_ble_eq_true rfl)
  rw [lg_entry_eq]
  generalize (lg_sl ([.ref (a 0), .int k, .ref o]) ++ List.replicate (4 - (lg_sl ([.ref (a 0), .int k, .ref o])).length) Slot.unset).toArray = ls at hl ⊢
  have hl : lv_has ls 4 [(0, .ref (a 0)), (1, .int k), (2, .ref o)] := hl
  refine lv_aload_n hx hb dL_steps_0 rfl (lv_at hl 2 rfl) ?_
  refine lv_iconst (v := 0) hx hb dL_steps_1 (by decide) ?_
  refine lv_aload_n hx hb dL_steps_2 rfl (lv_at hl 0 rfl) ?_
  refine lv_iload_n hx hb dL_steps_3 rfl (lv_at hl 1 rfl) ?_
  have hPx := hP.sub (ws' := wX c0 a (n, wk, sd, bt, lt, lo, rk, ad, vl, bg, cm, sp, gd, rf, ct, rd, sm, js, sn, wl)) [1, 2, 3, 4, 5, 6, 7, 8, 9, 10, 11, 12, 13, 14] rfl
  have hDx := hD.sub (ws' := wX c0 a (n, wk, sd, bt, lt, lo, rk, ad, vl, bg, cm, sp, gd, rf, ct, rd, sm, js, sn, wl)) [1, 2, 3, 4, 5, 6, 7, 8, 9, 10, 11, 12, 13, 14] (by decide) rfl
  have hKx := hK.sub (tys' := [(c0, .int)]) [0] rfl
  have hPo := hP.sub (ws' := [(o, .inl (cL, 1, .inr (.inl g)))]) [0] rfl
  have hFx := fre hDx hS hA
  refine vx_calli (vx_runV (As := [.int k]) (rest := [.int 0, .ref o]) ⟨hx, hb, hml, hown, hts⟩ (c_X0_steps l hl9 dC dI c0 a _ n wk sd bt lt lo rk ad vl bg cm sp gd rf ct rd sm js sn wl k hn) (cwV 1 hts gL_steps_X0_steps rfl rfl rfl (by decide +kernel) ⟨(Nat.le_of_ble_eq_true rfl), (Nat.le_of_ble_eq_true rfl)⟩) ⟨PX_blind, va_recv hKx hPx (ci := 0) (q0 := 0) rfl rfl, PX_give hPx hKx hDx hE hS hFx⟩ rfl rfl hl.1 rfl (lv_room (Nat.le_of_ble_eq_true rfl)) dL_steps_4 ⟨by decide, by decide⟩) hS (fun q _ h => hFx q h) hFx (fun q _ h => hFx q h) (fun E ce q9 u t H1 locs ht hvm hw hB hz1 hk1 hS hce hcv hcl => ?_) (fun r u t H1 locs ht hvm hw hB hz1 hk1 hS => ?_)
  · skip
    obtain ⟨hEE, hB⟩ := hB
    obtain ⟨hP1, -, hD1⟩ := hB
    rw [ht] at hP1
    obtain ⟨hPo, hD⟩ := jnL (Q := [(o, .inl (cL, 1, .inr (.inl g)))]) (P := wX c0 a (n, wk, sd, bt, lt, lo, rk, ad, vl, bg, cm, sp, gd, rf, ct, rd, sm, js, sn, wl)) hPo hD hk1 hD1 hFx
    have hP := hPo.app hP1
    rcases hEE with ⟨rfl, hf9⟩ | ⟨rfl, hf9⟩
    · skip
      have hP : va_P (dC, dI) vwCl (WO c0 cL a o (n, wk, sd, bt, lt, lo, rk, ad, vl, bg, cm, sp, gd, rf, ct, rd, sm, js, sn, wl) g) H1 := hP
      have hD : va_D A (WO c0 cL a o (n, wk, sd, bt, lt, lo, rk, ad, vl, bg, cm, sp, gd, rf, ct, rd, sm, js, sn, wl) g) := hD
      refine vx_catch (own := RL) (name := "java/lang/IndexOutOfBoundsException") (E := "java/lang/IndexOutOfBoundsException") hown [] ⟨0, 9, 12, 13⟩ [⟨0, 9, 15, 25⟩] (by rw [hTab]; rfl) (fun z hz => nomatch hz) (by decide) (by decide) (hE.t m_168 rfl) (hE.t m_180 rfl) hce hcv hcl ?_
      refine lv_astore_n (lv' := [(3, .ref q9), (0, .ref (a 0)), (1, .int k), (2, .ref o)]) hx hb dL_steps_12 rfl hl (by decide) rfl (fun ls hl => ?_)
      refine lv_iconst (v := 1) hx hb dL_steps_13 (by decide) ?_
      exact W.iret (v := 1) hx hb hr (fun t ht hW => ⟨⟨1, ((n, wk, sd, bt, lt, lo, rk, ad, vl, bg, cm, sp, gd, rf, ct, rd, sm, js, sn, wl), g), rfl, ⟨by rw [hf9], by rw [hf9], by rw [hf9]; simp⟩, by rw [ht]; exact hP, va_K.moved hW.alike hK, hD⟩, hS.F ht⟩) hS.2.2 dL_steps_14
    · skip
      have hP : va_P (dC, dI) vwCl (WO c0 cL a o (n, wk, sd, bt, lt, lo, rk, ad, vl, bg, cm, sp, gd, rf, ct, rd, sm, js, sn, wl) g) H1 := hP
      have hD : va_D A (WO c0 cL a o (n, wk, sd, bt, lt, lo, rk, ad, vl, bg, cm, sp, gd, rf, ct, rd, sm, js, sn, wl) g) := hD
      refine vx_catch (own := RL) (name := "java/lang/IllegalStateException") (E := "java/lang/IllegalStateException") hown [⟨0, 9, 12, 13⟩] ⟨0, 9, 15, 25⟩ [] (by rw [hTab]; rfl) (by
          intro z hz
          rcases List.mem_cons.mp hz with rfl | hz
          · exact Or.inr ⟨by decide, "java/lang/IndexOutOfBoundsException", hts (.classLink RL 13 "java/lang/IndexOutOfBoundsException") (by decide +kernel), hE.nc ("java/lang/IllegalStateException", "java/lang/IndexOutOfBoundsException") (by decide +kernel)⟩
          cases hz) (by decide) (by decide) (hE.t m_275 rfl) (hE.t m_283 rfl) hce hcv hcl ?_
      refine lv_astore_n (lv' := [(3, .ref q9), (0, .ref (a 0)), (1, .int k), (2, .ref o)]) hx hb dL_steps_15 rfl hl (by decide) rfl (fun ls hl => ?_)
      refine lv_iconst (v := 2) hx hb dL_steps_16 (by decide) ?_
      exact W.iret (v := 2) hx hb hr (fun t ht hW => ⟨⟨2, ((n, wk, sd, bt, lt, lo, rk, ad, vl, bg, cm, sp, gd, rf, ct, rd, sm, js, sn, wl), g), rfl, ⟨by rw [hf9], by rw [hf9], by rw [hf9]; simp⟩, by rw [ht]; exact hP, va_K.moved hW.alike hK, hD⟩, hS.F ht⟩) hS.2.2 dL_steps_17
  · skip
    obtain ⟨hP1, -, hD1⟩ := hB
    rw [ht] at hP1
    obtain ⟨hPo, hD⟩ := jnL (Q := [(o, .inl (cL, 1, .inr (.inl g)))]) (P := wX c0 a (n, wk, sd, bt, lt, lo, rk, ad, vl, bg, cm, sp, gd, rf, ct, rd, sm, js, sn, wl)) hPo hD hk1 hD1 hFx
    have hP := hPo.app hP1
    have hP : va_P (dC, dI) vwCl (WO c0 cL a o u g) H1 := hP
    have hD : va_D A (WO c0 cL a o u g) := hD
    generalize H1 = H at hP hS ⊢
    refine lv_i2l hx hb dL_steps_7 (v := r.toInt64) rfl ?_
    refine va_last hx hb hK hP hD hS 0 1 rfl rfl in01 dL_steps_8 (fun H locs hP hD hS => ?_)
    rw [sb_cl0] at hP hD
    have hP : va_P (dC, dI) vwCl (WO c0 cL a o u (vp_updL g 0 r.toInt64)) H := hP
    have hD : va_D A (WO c0 cL a o u (vp_updL g 0 r.toInt64)) := hD
    refine lv_goto (tgt := 18) hx hb dL_steps_9 (by decide) ?_
    refine lv_iconst (v := 0) hx hb dL_steps_18 (by decide) ?_
    exact W.iret (v := 0) hx hb hr (fun t ht hW => ⟨⟨0, (u, vp_updL g 0 r.toInt64), rfl, ⟨by rw [hw], by rw [hw], by rw [hw]; simp⟩, by rw [ht]; exact hP, va_K.moved hW.alike hK, hD⟩, hS.F ht⟩) hS.2.2 dL_steps_19
set_option maxHeartbeats 4000000 in
set_option maxRecDepth 100000 in
/-- the law's count -/
theorem c_L_count (l : Launch) (hl9 : l.stackTraces = false) (dC : Nat → ClassId) (dI : Nat → Nat → Nat) (c0 cL : ClassId) (o : Nat) (g : Nat → Int64) (a : Nat → Nat) (sz : Nat) (uu : xS) (hok : xok uu) (k : Int32) : Met l yL_count wsL_count ({ frames := 8, cells := 1, slots := 6, locals := 128 }) (va_Pc [.ref (a 0), .int k, .ref o] (PW dC dI c0 cL a o uu g sz)) (va_Qi (fun (r : Int32) (v9 : xS × (Nat → Int64)) => r = (f_count uu k).1 ∧ v9.1 = (f_count uu k).2.2 ∧ v9.2 = if (f_count uu k).1 = 0 then vp_updL g 0 (f_count uu k).2.1 else g) (fun (v9 : xS × (Nat → Int64)) t => va_P (dC, dI) vwCl (WO c0 cL a o v9.1 v9.2) t.heap ∧ va_K (dC, dI) vwCl [(c0, .int), (cL, .long)] t ∧ va_D (va_A (WO c0 cL a o uu g) sz) (WO c0 cL a o v9.1 v9.2)) (va_A (WO c0 cL a o uu g) sz)) 1 6 (va_A (WO c0 cL a o uu g) sz) := by
  obtain ⟨n, wk, sd, bt, lt, lo, rk, ad, vl, bg, cm, sp, gd, rf, ct, rd, sm, js, sn, wl⟩ := uu
  obtain ⟨hn, hct⟩ := hok
  refine va_MetW (cc := cL_count) (maxL := 4) (ret := (some .int)) (hh := [(0, 9, 12, 13)]) (by decide) rfl ?_
  intro p e s m args below meth c s₁ B hml hv
  obtain ⟨rfl, hsz, hP, hK, hD0, hE⟩ := hv
  have hx := B.exec
  have hb := B.bytes
  have hr := B.returns
  have hown : s.vm.findClass RL = some m.cls := findClass_of_methodNamed B.named
  have hlocks := B.notSynchronized
  have hTab : c.exceptionTable.toList = tableOf [(0, 9, 12, 13)] := vx_table (x := yL_count) B (hE.t m_415 rfl)
  subst hsz
  have hD := hD0.self (sz := s.heap.size)
  generalize hAe : va_A (WO c0 cL a o (n, wk, sd, bt, lt, lo, rk, ad, vl, bg, cm, sp, gd, rf, ct, rd, sm, js, sn, wl) g) s.heap.size = A at hD hE ⊢
  have hts := hE.ts (args := ([.ref (a 0), .int k, .ref o] : List Value).toArray)
  have hA : ∀ q : Nat, s.heap.size ≤ q → A q := fun q h => by rw [← hAe]; exact Or.inr h
  have hS : va_S A s.heap s.heap [] := va_S.rf
  have hP : va_P (dC, dI) vwCl (WO c0 cL a o (n, wk, sd, bt, lt, lo, rk, ad, vl, bg, cm, sp, gd, rf, ct, rd, sm, js, sn, wl) g) s.heap := hP
  have hl := lv_entry ([.ref (a 0), .int k, .ref o]) (n := 4) (Nat.le_of_ble_eq_true rfl)
  rw [lg_entry_eq]
  generalize (lg_sl ([.ref (a 0), .int k, .ref o]) ++ List.replicate (4 - (lg_sl ([.ref (a 0), .int k, .ref o])).length) Slot.unset).toArray = ls at hl ⊢
  have hl : lv_has ls 4 [(0, .ref (a 0)), (1, .int k), (2, .ref o)] := hl
  refine lv_aload_n hx hb dL_count_0 rfl (lv_at hl 2 rfl) ?_
  refine lv_iconst (v := 0) hx hb dL_count_1 (by decide) ?_
  refine lv_aload_n hx hb dL_count_2 rfl (lv_at hl 0 rfl) ?_
  refine lv_iload_n hx hb dL_count_3 rfl (lv_at hl 1 rfl) ?_
  have hPx := hP.sub (ws' := wX c0 a (n, wk, sd, bt, lt, lo, rk, ad, vl, bg, cm, sp, gd, rf, ct, rd, sm, js, sn, wl)) [1, 2, 3, 4, 5, 6, 7, 8, 9, 10, 11, 12, 13, 14] rfl
  have hDx := hD.sub (ws' := wX c0 a (n, wk, sd, bt, lt, lo, rk, ad, vl, bg, cm, sp, gd, rf, ct, rd, sm, js, sn, wl)) [1, 2, 3, 4, 5, 6, 7, 8, 9, 10, 11, 12, 13, 14] (by decide) rfl
  have hKx := hK.sub (tys' := [(c0, .int)]) [0] rfl
  have hPo := hP.sub (ws' := [(o, .inl (cL, 1, .inr (.inl g)))]) [0] rfl
  have hFx := fre hDx hS hA
  refine vx_calli (vx_runV (As := [.int k]) (rest := [.int 0, .ref o]) ⟨hx, hb, hml, hown, hts⟩ (c_X0_count l hl9 dC dI c0 a _ n wk sd bt lt lo rk ad vl bg cm sp gd rf ct rd sm js sn wl k hn) (cwV 1 hts gL_count_X0_count rfl rfl rfl (by decide +kernel) ⟨(Nat.le_of_ble_eq_true rfl), (Nat.le_of_ble_eq_true rfl)⟩) ⟨PX_blind, va_recv hKx hPx (ci := 0) (q0 := 0) rfl rfl, PX_give hPx hKx hDx hE hS hFx⟩ rfl rfl hl.1 rfl (lv_room (Nat.le_of_ble_eq_true rfl)) dL_count_4 ⟨by decide, by decide⟩) hS (fun q _ h => hFx q h) hFx (fun q _ h => hFx q h) (fun E ce q9 u t H1 locs ht hvm hw hB hz1 hk1 hS hce hcv hcl => ?_) (fun r u t H1 locs ht hvm hw hB hz1 hk1 hS => ?_)
  · skip
    obtain ⟨hEE, hB⟩ := hB
    obtain ⟨hP1, -, hD1⟩ := hB
    rw [ht] at hP1
    obtain ⟨hPo, hD⟩ := jnL (Q := [(o, .inl (cL, 1, .inr (.inl g)))]) (P := wX c0 a (n, wk, sd, bt, lt, lo, rk, ad, vl, bg, cm, sp, gd, rf, ct, rd, sm, js, sn, wl)) hPo hD hk1 hD1 hFx
    have hP := hPo.app hP1
    obtain ⟨rfl, hf9⟩ := hEE
    have hP : va_P (dC, dI) vwCl (WO c0 cL a o (n, wk, sd, bt, lt, lo, rk, ad, vl, bg, cm, sp, gd, rf, ct, rd, sm, js, sn, wl) g) H1 := hP
    have hD : va_D A (WO c0 cL a o (n, wk, sd, bt, lt, lo, rk, ad, vl, bg, cm, sp, gd, rf, ct, rd, sm, js, sn, wl) g) := hD
    refine vx_catch (own := RL) (name := "java/lang/IndexOutOfBoundsException") (E := "java/lang/IndexOutOfBoundsException") hown [] ⟨0, 9, 12, 13⟩ [] (by rw [hTab]; rfl) (fun z hz => nomatch hz) (by decide) (by decide) (hE.t m_168 rfl) (hE.t m_180 rfl) hce hcv hcl ?_
    refine lv_astore_n (lv' := [(3, .ref q9), (0, .ref (a 0)), (1, .int k), (2, .ref o)]) hx hb dL_count_12 rfl hl (by decide) rfl (fun ls hl => ?_)
    refine lv_iconst (v := 1) hx hb dL_count_13 (by decide) ?_
    exact W.iret (v := 1) hx hb hr (fun t ht hW => ⟨⟨1, ((n, wk, sd, bt, lt, lo, rk, ad, vl, bg, cm, sp, gd, rf, ct, rd, sm, js, sn, wl), g), rfl, ⟨by rw [hf9], by rw [hf9], by rw [hf9]; simp⟩, by rw [ht]; exact hP, va_K.moved hW.alike hK, hD⟩, hS.F ht⟩) hS.2.2 dL_count_14
  · skip
    obtain ⟨hP1, -, hD1⟩ := hB
    rw [ht] at hP1
    obtain ⟨hPo, hD⟩ := jnL (Q := [(o, .inl (cL, 1, .inr (.inl g)))]) (P := wX c0 a (n, wk, sd, bt, lt, lo, rk, ad, vl, bg, cm, sp, gd, rf, ct, rd, sm, js, sn, wl)) hPo hD hk1 hD1 hFx
    have hP := hPo.app hP1
    have hP : va_P (dC, dI) vwCl (WO c0 cL a o u g) H1 := hP
    have hD : va_D A (WO c0 cL a o u g) := hD
    generalize H1 = H at hP hS ⊢
    refine lv_i2l hx hb dL_count_7 (v := r.toInt64) rfl ?_
    refine va_last hx hb hK hP hD hS 0 1 rfl rfl in01 dL_count_8 (fun H locs hP hD hS => ?_)
    rw [sb_cl0] at hP hD
    have hP : va_P (dC, dI) vwCl (WO c0 cL a o u (vp_updL g 0 r.toInt64)) H := hP
    have hD : va_D A (WO c0 cL a o u (vp_updL g 0 r.toInt64)) := hD
    refine lv_goto (tgt := 15) hx hb dL_count_9 (by decide) ?_
    refine lv_iconst (v := 0) hx hb dL_count_15 (by decide) ?_
    exact W.iret (v := 0) hx hb hr (fun t ht hW => ⟨⟨0, (u, vp_updL g 0 r.toInt64), rfl, ⟨by rw [hw], by rw [hw], by rw [hw]; simp⟩, by rw [ht]; exact hP, va_K.moved hW.alike hK, hD⟩, hS.F ht⟩) hS.2.2 dL_count_16
