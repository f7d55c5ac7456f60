def u_c_X11_makes : List Cond := .code yX11_makes cX11_makes 4 (some .int) :: ([.fieldLink RX11 39 "CakePapers" "desk" "LCakePapers$Desk;", .code yX1_get cX1_get 2 (some (.object "CakePapers$Paper")), .fieldLink RX1 24 "CakePapers$Desk" "count" "I", .methodLink RX11 148 yX1_get, .instanceMethod yX1_get, .selects RX1 yX1_get yX1_get, .initialized RX1] ++ wsX110 ++ wsX10)
theorem iX11_c_X11_makes : ∀ w ∈ wsX110, w ∈ u_c_X11_makes := fun w h => List.mem_cons_of_mem _ (List.mem_append_left _ (List.mem_append_right _ h))
theorem iX1_c_X11_makes : ∀ w ∈ wsX10, w ∈ u_c_X11_makes := fun w h => List.mem_cons_of_mem _ (List.mem_append_right _ h)
set_option maxRecDepth 20000 in
theorem g_c_X11_makes_c_X1_get_0 : GoodIn u_c_X11_makes (wsV RX11 148 RX1 yX1_get u_c_X1_get) := goodIn_app (goodIn_of _ (by decide +kernel)) (goodIn_ca (goodIn_of (.code yX1_get cX1_get 2 (some (.object "CakePapers$Paper")) :: [.fieldLink RX1 24 "CakePapers$Desk" "count" "I"]) (by decide +kernel)) (goodIn_sub iX1_c_X11_makes zgX1))
set_option maxHeartbeats 1000000 in
set_option maxRecDepth 100000 in
theorem c_X11_makes (l : Launch) (dC : Nat → ClassId) (dI : Nat → Nat → Nat) (sz : Nat) (h0 h1 : Nat) (fs : List Value) (hn_fs : fs.length = 16) (e_fs_5 : fs[5]? = some (.ref h1)) (gs : List Value) (hn_gs : gs.length = 3) (e_gs_2 : gs[2]? = some (.int 0)) (p0 : Int32) (p1 : Int32) : Met l yX11_makes u_c_X11_makes ({ frames := 1, cells := 0, slots := 0, locals := 21 }) (va_Pc [.ref h0, .int p0, .int p1] (fun U => U.heap.size = sz ∧ va_P (dC, dI) vwCl [(h0, .inr (11, fs)), (h1, .inr (1, gs))] U.heap ∧ va_K (dC, dI) vwCl [] U ∧ va_D (fun _ => True) [(h0, .inr (11, fs)), (h1, .inr (1, gs))])) (va_Qi (fun (r : Int32) (_ : Unit) => r = (-1)) (fun _ _ => True) (va_A [(h0, .inr (11, fs)), (h1, .inr (1, gs))] sz)) 0 0 (va_A [(h0, .inr (11, fs)), (h1, .inr (1, gs))] sz) := by
  refine Met.ofW (cc := cX11_makes) (maxL := 4) (ret := (some .int)) (by decide) rfl ?_
  intro p e s m args below meth c s₁ B hml hv
  obtain ⟨rfl, hsz, hP, hK, hD0⟩ := hv
  have hx := B.exec
  have hb := B.bytes
  have hr := B.returns
  have hts := atoms_spec (ws := u_c_X11_makes) B.pre
  have hown : s.vm.findClass RX11 = some m.cls := findClass_of_methodNamed B.named
  have hlocks := B.notSynchronized
  have hiX11 := iX11_c_X11_makes
  have hiX1 := iX1_c_X11_makes
  subst hsz
  have hD := hD0.self (sz := s.heap.size)
  generalize hAe : va_A [(h0, .inr (11, fs)), (h1, .inr (1, gs))] s.heap.size = A at hD ⊢
  have hA : ∀ q : Nat, s.heap.size ≤ q → A q := fun q h => by rw [← hAe]; exact Or.inr h
  have hS : va_S A s.heap s.heap [] := va_S.rf
  obtain ⟨H, hH⟩ : ∃ H : Heap, H = s.heap := ⟨_, rfl⟩
  have hP : va_P (dC, dI) vwCl [(h0, .inr (11, fs)), (h1, .inr (1, gs))] H := by rw [hH]; exact hP
  have hS : va_S A s.heap H [] := by rw [hH]; exact hS
  have hl := lv_entry ([.ref h0, .int p0, .int p1]) (n := 4) (Nat.le_of_ble_eq_true rfl)
  rw [lg_entry_eq]
  generalize (lg_sl ([.ref h0, .int p0, .int p1]) ++ List.replicate (4 - (lg_sl ([.ref h0, .int p0, .int p1])).length) Slot.unset).toArray = ls at hl ⊢
  have hl : lv_has ls 4 [(0, .ref h0), (1, .int p0), (2, .int p1)] := hl
  suffices h9 : W p l e (headSpec u_c_X11_makes _).room s m _ below meth c H [] 0 0 _ (F0 m 0 ls []) by rw [hH] at h9; exact h9
  refine lv_aload_n hx hb dX11_makes_0 rfl (lv_at hl 0 rfl) ?_
  refine va_get (D := (dC, dI)) (ci := 11) (v := .ref h1) (C := RX11) (T := TX11) (N := 16) hx hb hts hiX11 hown hK hP 0 rfl rfl 5 (by decide) (hts (.fieldLink RX11 39 "CakePapers" "desk" "LCakePapers$Desk;") (by decide +kernel)) (fun _ h9 => h9) e_fs_5 dX11_makes_1 ?_
  refine lv_iload_n hx hb dX11_makes_4 rfl (lv_at hl 1 rfl) ?_
  have hPc := hP.sub (ws' := [(h1, .inr (1, gs))]) [1] rfl
  have hDc := hD.sub (ws' := [(h1, .inr (1, gs))]) [1] (by decide) rfl
  have hKc := hK.sub (tys' := []) [] rfl
  have hFc := va_free (wc := [(h1, .inr (1, gs))]) hD hS hA [1] rfl
  refine va_callq (va_runV (As := [.int p0]) (rest := []) ⟨hx, hb, hml, hown, hts⟩ (c_X1_get l dC dI H.size h1 gs hn_gs e_gs_2 p0) (cwV 1 hts g_c_X11_makes_c_X1_get_0 rfl rfl rfl (by decide +kernel) ⟨Nat.le_of_ble_eq_true rfl, Nat.le_of_ble_eq_true rfl⟩) ⟨fun a U g mk q => by obtain ⟨q0, q1, qP, qK, qD⟩ := q; exact ⟨q0, q1, qP, va_K.moved (u := U) (U := U.calling g mk a) (Vm.Alike.refl U.vm) qK, qD⟩, va_recv hKc hPc (ci := 1) (q0 := 0) rfl rfl, fun U hU hW => ⟨rfl, by rw [hU], by rw [hU]; exact hPc, va_K.moved hW.alike hKc, hDc.weaken (fun _ _ _ _ => trivial)⟩⟩ rfl rfl hl.1 rfl (lv_room (Nat.le_of_ble_eq_true rfl)) dX11_makes_5 ⟨Nat.le_of_ble_eq_true rfl, Nat.le_of_ble_eq_true rfl⟩) hS (fun q _ h => hFc q h) hFc (fun r_1 u t H1 locs ht hvm hw hB hz1 hk1 hS => ?_)
  obtain ⟨hP1, hD1⟩ := hB
  rw [ht] at hP1
  obtain ⟨hP, hD⟩ := va_join (wr := [(h0, .inr (11, fs))]) (w1 := [(h1, .inr (1, gs))]) hP hD [1] [0] rfl rfl (by decide) (by decide) hk1 hFc hP1 hD1
  generalize H1 = H at hP hS ⊢
  have hP : va_P (dC, dI) vwCl [(h0, .inr (11, fs)), (h1, .inr (1, gs))] H := hP
  have hD : va_D A [(h0, .inr (11, fs)), (h1, .inr (1, gs))] := hD
  refine W.widen (k := 0) (n := 0) (Nat.le_of_ble_eq_true rfl) (Nat.le_of_ble_eq_true rfl) ?_
  have e_1 : r_1 = none := hw
  subst e_1
  refine W.eq (g2 := F0 m 8 ls [.null]) rfl ?_
  refine lv_astore_nN (lv' := [(3, .null), (0, .ref h0), (1, .int p0), (2, .int p1)]) hx hb dX11_makes_8 rfl hl (by decide) rfl (fun ls hl => ?_)
  refine lv_aload_nN hx hb dX11_makes_9 rfl (lv_at hl 0 rfl) ?_
  refine lv_ifnonnullN hx hb dX11_makes_10 ?_
  refine lv_iconst (v := (-1)) hx hb dX11_makes_13 (by decide) ?_
  refine W.widen (k := 0) (n := 0) (Nat.le_of_ble_eq_true rfl) (Nat.le_of_ble_eq_true rfl) ?_
  exact W.iret (v := (-1)) hx hb hr (fun t ht hW => ⟨⟨(-1), (), rfl, rfl, trivial⟩, hS.F ht⟩) hS.2.2 dX11_makes_14
def u_c_X11_step : List Cond := .code yX11_step cX11_step 5 (some .int) :: ([.fieldLink RX11 39 "CakePapers" "desk" "LCakePapers$Desk;", .code yX1_get cX1_get 2 (some (.object "CakePapers$Paper")), .fieldLink RX1 24 "CakePapers$Desk" "count" "I", .methodLink RX11 148 yX1_get, .instanceMethod yX1_get, .selects RX1 yX1_get yX1_get, .initialized RX1] ++ wsX110 ++ wsX10)
theorem iX11_c_X11_step : ∀ w ∈ wsX110, w ∈ u_c_X11_step := fun w h => List.mem_cons_of_mem _ (List.mem_append_left _ (List.mem_append_right _ h))
theorem iX1_c_X11_step : ∀ w ∈ wsX10, w ∈ u_c_X11_step := fun w h => List.mem_cons_of_mem _ (List.mem_append_right _ h)
set_option maxRecDepth 20000 in
theorem g_c_X11_step_c_X1_get_0 : GoodIn u_c_X11_step (wsV RX11 148 RX1 yX1_get u_c_X1_get) := goodIn_app (goodIn_of _ (by decide +kernel)) (goodIn_ca (goodIn_of (.code yX1_get cX1_get 2 (some (.object "CakePapers$Paper")) :: [.fieldLink RX1 24 "CakePapers$Desk" "count" "I"]) (by decide +kernel)) (goodIn_sub iX1_c_X11_step zgX1))
set_option maxHeartbeats 1000000 in
set_option maxRecDepth 100000 in
theorem c_X11_step (l : Launch) (dC : Nat → ClassId) (dI : Nat → Nat → Nat) (sz : Nat) (h0 h1 : Nat) (fs : List Value) (hn_fs : fs.length = 16) (e_fs_5 : fs[5]? = some (.ref h1)) (gs : List Value) (hn_gs : gs.length = 3) (e_gs_2 : gs[2]? = some (.int 0)) (p0 : Int32) (p1 : Int32) (p2 : Int32) : Met l yX11_step u_c_X11_step ({ frames := 1, cells := 0, slots := 0, locals := 21 }) (va_Pc [.ref h0, .int p0, .int p1, .int p2] (fun U => U.heap.size = sz ∧ va_P (dC, dI) vwCl [(h0, .inr (11, fs)), (h1, .inr (1, gs))] U.heap ∧ va_K (dC, dI) vwCl [] U ∧ va_D (fun _ => True) [(h0, .inr (11, fs)), (h1, .inr (1, gs))])) (va_Qi (fun (r : Int32) (_ : Unit) => r = (-1)) (fun _ _ => True) (va_A [(h0, .inr (11, fs)), (h1, .inr (1, gs))] sz)) 0 0 (va_A [(h0, .inr (11, fs)), (h1, .inr (1, gs))] sz) := by
  refine Met.ofW (cc := cX11_step) (maxL := 5) (ret := (some .int)) (by decide) rfl ?_
  intro p e s m args below meth c s₁ B hml hv
  obtain ⟨rfl, hsz, hP, hK, hD0⟩ := hv
  have hx := B.exec
  have hb := B.bytes
  have hr := B.returns
  have hts := atoms_spec (ws := u_c_X11_step) B.pre
  have hown : s.vm.findClass RX11 = some m.cls := findClass_of_methodNamed B.named
  have hlocks := B.notSynchronized
  have hiX11 := iX11_c_X11_step
  have hiX1 := iX1_c_X11_step
  subst hsz
  have hD := hD0.self (sz := s.heap.size)
  generalize hAe : va_A [(h0, .inr (11, fs)), (h1, .inr (1, gs))] s.heap.size = A at hD ⊢
  have hA : ∀ q : Nat, s.heap.size ≤ q → A q := fun q h => by rw [← hAe]; exact Or.inr h
  have hS : va_S A s.heap s.heap [] := va_S.rf
  obtain ⟨H, hH⟩ : ∃ H : Heap, H = s.heap := ⟨_, rfl⟩
  have hP : va_P (dC, dI) vwCl [(h0, .inr (11, fs)), (h1, .inr (1, gs))] H := by rw [hH]; exact hP
  have hS : va_S A s.heap H [] := by rw [hH]; exact hS
  have hl := lv_entry ([.ref h0, .int p0, .int p1, .int p2]) (n := 5) (Nat.le_of_ble_eq_true rfl)
  rw [lg_entry_eq]
  generalize (lg_sl ([.ref h0, .int p0, .int p1, .int p2]) ++ List.replicate (5 - (lg_sl ([.ref h0, .int p0, .int p1, .int p2])).length) Slot.unset).toArray = ls at hl ⊢
  have hl : lv_has ls 5 [(0, .ref h0), (1, .int p0), (2, .int p1), (3, .int p2)] := hl
  suffices h9 : W p l e (headSpec u_c_X11_step _).room s m _ below meth c H [] 0 0 _ (F0 m 0 ls []) by rw [hH] at h9; exact h9
  refine lv_aload_n hx hb dX11_step_0 rfl (lv_at hl 0 rfl) ?_
  refine va_get (D := (dC, dI)) (ci := 11) (v := .ref h1) (C := RX11) (T := TX11) (N := 16) hx hb hts hiX11 hown hK hP 0 rfl rfl 5 (by decide) (hts (.fieldLink RX11 39 "CakePapers" "desk" "LCakePapers$Desk;") (by decide +kernel)) (fun _ h9 => h9) e_fs_5 dX11_step_1 ?_
  refine lv_iload_n hx hb dX11_step_4 rfl (lv_at hl 1 rfl) ?_
  have hPc := hP.sub (ws' := [(h1, .inr (1, gs))]) [1] rfl
  have hDc := hD.sub (ws' := [(h1, .inr (1, gs))]) [1] (by decide) rfl
  have hKc := hK.sub (tys' := []) [] rfl
  have hFc := va_free (wc := [(h1, .inr (1, gs))]) hD hS hA [1] rfl
  refine va_callq (va_runV (As := [.int p0]) (rest := []) ⟨hx, hb, hml, hown, hts⟩ (c_X1_get l dC dI H.size h1 gs hn_gs e_gs_2 p0) (cwV 1 hts g_c_X11_step_c_X1_get_0 rfl rfl rfl (by decide +kernel) ⟨Nat.le_of_ble_eq_true rfl, Nat.le_of_ble_eq_true rfl⟩) ⟨fun a U g mk q => by obtain ⟨q0, q1, qP, qK, qD⟩ := q; exact ⟨q0, q1, qP, va_K.moved (u := U) (U := U.calling g mk a) (Vm.Alike.refl U.vm) qK, qD⟩, va_recv hKc hPc (ci := 1) (q0 := 0) rfl rfl, fun U hU hW => ⟨rfl, by rw [hU], by rw [hU]; exact hPc, va_K.moved hW.alike hKc, hDc.weaken (fun _ _ _ _ => trivial)⟩⟩ rfl rfl hl.1 rfl (lv_room (Nat.le_of_ble_eq_true rfl)) dX11_step_5 ⟨Nat.le_of_ble_eq_true rfl, Nat.le_of_ble_eq_true rfl⟩) hS (fun q _ h => hFc q h) hFc (fun r_1 u t H1 locs ht hvm hw hB hz1 hk1 hS => ?_)
  obtain ⟨hP1, hD1⟩ := hB
  rw [ht] at hP1
  obtain ⟨hP, hD⟩ := va_join (wr := [(h0, .inr (11, fs))]) (w1 := [(h1, .inr (1, gs))]) hP hD [1] [0] rfl rfl (by decide) (by decide) hk1 hFc hP1 hD1
  generalize H1 = H at hP hS ⊢
  have hP : va_P (dC, dI) vwCl [(h0, .inr (11, fs)), (h1, .inr (1, gs))] H := hP
  have hD : va_D A [(h0, .inr (11, fs)), (h1, .inr (1, gs))] := hD
  refine W.widen (k := 0) (n := 0) (Nat.le_of_ble_eq_true rfl) (Nat.le_of_ble_eq_true rfl) ?_
  have e_1 : r_1 = none := hw
  subst e_1
  refine W.eq (g2 := F0 m 8 ls [.null]) rfl ?_
  refine lv_astoreN (lv' := [(4, .null), (0, .ref h0), (1, .int p0), (2, .int p1), (3, .int p2)]) hx hb dX11_step_8 hl (by decide) rfl (fun ls hl => ?_)
  refine lv_aloadN hx hb dX11_step_10 (lv_at hl 0 rfl) ?_
  refine lv_ifnullN (tgt := 24) hx hb dX11_step_12 (by decide) ?_
  refine lv_iconst (v := (-1)) hx hb dX11_step_24 (by decide) ?_
  refine W.widen (k := 0) (n := 0) (Nat.le_of_ble_eq_true rfl) (Nat.le_of_ble_eq_true rfl) ?_
  exact W.iret (v := (-1)) hx hb hr (fun t ht hW => ⟨⟨(-1), (), rfl, rfl, trivial⟩, hS.F ht⟩) hS.2.2 dX11_step_25
def u_c_X11_same : List Cond := .code yX11_same cX11_same 5 (some .int) :: ([.fieldLink RX11 39 "CakePapers" "desk" "LCakePapers$Desk;", .code yX1_get cX1_get 2 (some (.object "CakePapers$Paper")), .fieldLink RX1 24 "CakePapers$Desk" "count" "I", .methodLink RX11 148 yX1_get, .instanceMethod yX1_get, .selects RX1 yX1_get yX1_get, .initialized RX1] ++ wsX110 ++ wsX10)
theorem iX11_c_X11_same : ∀ w ∈ wsX110, w ∈ u_c_X11_same := fun w h => List.mem_cons_of_mem _ (List.mem_append_left _ (List.mem_append_right _ h))
theorem iX1_c_X11_same : ∀ w ∈ wsX10, w ∈ u_c_X11_same := fun w h => List.mem_cons_of_mem _ (List.mem_append_right _ h)
set_option maxRecDepth 20000 in
theorem g_c_X11_same_c_X1_get_0 : GoodIn u_c_X11_same (wsV RX11 148 RX1 yX1_get u_c_X1_get) := goodIn_app (goodIn_of _ (by decide +kernel)) (goodIn_ca (goodIn_of (.code yX1_get cX1_get 2 (some (.object "CakePapers$Paper")) :: [.fieldLink RX1 24 "CakePapers$Desk" "count" "I"]) (by decide +kernel)) (goodIn_sub iX1_c_X11_same zgX1))
set_option maxHeartbeats 1000000 in
set_option maxRecDepth 100000 in
theorem c_X11_same (l : Launch) (dC : Nat → ClassId) (dI : Nat → Nat → Nat) (sz : Nat) (h0 h1 : Nat) (fs : List Value) (hn_fs : fs.length = 16) (e_fs_5 : fs[5]? = some (.ref h1)) (gs : List Value) (hn_gs : gs.length = 3) (e_gs_2 : gs[2]? = some (.int 0)) (p0 : Int32) (p1 : Int32) : Met l yX11_same u_c_X11_same ({ frames := 1, cells := 0, slots := 0, locals := 21 }) (va_Pc [.ref h0, .int p0, .int p1] (fun U => U.heap.size = sz ∧ va_P (dC, dI) vwCl [(h0, .inr (11, fs)), (h1, .inr (1, gs))] U.heap ∧ va_K (dC, dI) vwCl [] U ∧ va_D (fun _ => True) [(h0, .inr (11, fs)), (h1, .inr (1, gs))])) (va_Qi (fun (r : Int32) (_ : Unit) => r = (-1)) (fun _ _ => True) (va_A [(h0, .inr (11, fs)), (h1, .inr (1, gs))] sz)) 0 0 (va_A [(h0, .inr (11, fs)), (h1, .inr (1, gs))] sz) := by
  refine Met.ofW (cc := cX11_same) (maxL := 5) (ret := (some .int)) (by decide) rfl ?_
  intro p e s m args below meth c s₁ B hml hv
  obtain ⟨rfl, hsz, hP, hK, hD0⟩ := hv
  have hx := B.exec
  have hb := B.bytes
  have hr := B.returns
  have hts := atoms_spec (ws := u_c_X11_same) B.pre
  have hown : s.vm.findClass RX11 = some m.cls := findClass_of_methodNamed B.named
  have hlocks := B.notSynchronized
  have hiX11 := iX11_c_X11_same
  have hiX1 := iX1_c_X11_same
  subst hsz
  have hD := hD0.self (sz := s.heap.size)
  generalize hAe : va_A [(h0, .inr (11, fs)), (h1, .inr (1, gs))] s.heap.size = A at hD ⊢
  have hA : ∀ q : Nat, s.heap.size ≤ q → A q := fun q h => by rw [← hAe]; exact Or.inr h
  have hS : va_S A s.heap s.heap [] := va_S.rf
  obtain ⟨H, hH⟩ : ∃ H : Heap, H = s.heap := ⟨_, rfl⟩
  have hP : va_P (dC, dI) vwCl [(h0, .inr (11, fs)), (h1, .inr (1, gs))] H := by rw [hH]; exact hP
  have hS : va_S A s.heap H [] := by rw [hH]; exact hS
  have hl := lv_entry ([.ref h0, .int p0, .int p1]) (n := 5) (Nat.le_of_ble_eq_true rfl)
  rw [lg_entry_eq]
  generalize (lg_sl ([.ref h0, .int p0, .int p1]) ++ List.replicate (5 - (lg_sl ([.ref h0, .int p0, .int p1])).length) Slot.unset).toArray = ls at hl ⊢
  have hl : lv_has ls 5 [(0, .ref h0), (1, .int p0), (2, .int p1)] := hl
  suffices h9 : W p l e (headSpec u_c_X11_same _).room s m _ below meth c H [] 0 0 _ (F0 m 0 ls []) by rw [hH] at h9; exact h9
  refine lv_aload_n hx hb dX11_same_0 rfl (lv_at hl 0 rfl) ?_
  refine va_get (D := (dC, dI)) (ci := 11) (v := .ref h1) (C := RX11) (T := TX11) (N := 16) hx hb hts hiX11 hown hK hP 0 rfl rfl 5 (by decide) (hts (.fieldLink RX11 39 "CakePapers" "desk" "LCakePapers$Desk;") (by decide +kernel)) (fun _ h9 => h9) e_fs_5 dX11_same_1 ?_
  refine lv_iload_n hx hb dX11_same_4 rfl (lv_at hl 1 rfl) ?_
  have hPc := hP.sub (ws' := [(h1, .inr (1, gs))]) [1] rfl
  have hDc := hD.sub (ws' := [(h1, .inr (1, gs))]) [1] (by decide) rfl
  have hKc := hK.sub (tys' := []) [] rfl
  have hFc := va_free (wc := [(h1, .inr (1, gs))]) hD hS hA [1] rfl
  refine va_callq (va_runV (As := [.int p0]) (rest := []) ⟨hx, hb, hml, hown, hts⟩ (c_X1_get l dC dI H.size h1 gs hn_gs e_gs_2 p0) (cwV 1 hts g_c_X11_same_c_X1_get_0 rfl rfl rfl (by decide +kernel) ⟨Nat.le_of_ble_eq_true rfl, Nat.le_of_ble_eq_true rfl⟩) ⟨fun a U g mk q => by obtain ⟨q0, q1, qP, qK, qD⟩ := q; exact ⟨q0, q1, qP, va_K.moved (u := U) (U := U.calling g mk a) (Vm.Alike.refl U.vm) qK, qD⟩, va_recv hKc hPc (ci := 1) (q0 := 0) rfl rfl, fun U hU hW => ⟨rfl, by rw [hU], by rw [hU]; exact hPc, va_K.moved hW.alike hKc, hDc.weaken (fun _ _ _ _ => trivial)⟩⟩ rfl rfl hl.1 rfl (lv_room (Nat.le_of_ble_eq_true rfl)) dX11_same_5 ⟨Nat.le_of_ble_eq_true rfl, Nat.le_of_ble_eq_true rfl⟩) hS (fun q _ h => hFc q h) hFc (fun r_1 u t H1 locs ht hvm hw hB hz1 hk1 hS => ?_)
  obtain ⟨hP1, hD1⟩ := hB
  rw [ht] at hP1
  obtain ⟨hP, hD⟩ := va_join (wr := [(h0, .inr (11, fs))]) (w1 := [(h1, .inr (1, gs))]) hP hD [1] [0] rfl rfl (by decide) (by decide) hk1 hFc hP1 hD1
  generalize H1 = H at hP hS ⊢
  have hP : va_P (dC, dI) vwCl [(h0, .inr (11, fs)), (h1, .inr (1, gs))] H := hP
  have hD : va_D A [(h0, .inr (11, fs)), (h1, .inr (1, gs))] := hD
  refine W.widen (k := 0) (n := 0) (Nat.le_of_ble_eq_true rfl) (Nat.le_of_ble_eq_true rfl) ?_
  have e_1 : r_1 = none := hw
  subst e_1
  refine W.eq (g2 := F0 m 8 ls [.null]) rfl ?_
  refine lv_astore_nN (lv' := [(3, .null), (0, .ref h0), (1, .int p0), (2, .int p1)]) hx hb dX11_same_8 rfl hl (by decide) rfl (fun ls hl => ?_)
  refine lv_aload_n hx hb dX11_same_9 rfl (lv_at hl 1 rfl) ?_
  refine va_get (D := (dC, dI)) (ci := 11) (v := .ref h1) (C := RX11) (T := TX11) (N := 16) hx hb hts hiX11 hown hK hP 0 rfl rfl 5 (by decide) (hts (.fieldLink RX11 39 "CakePapers" "desk" "LCakePapers$Desk;") (by decide +kernel)) (fun _ h9 => h9) e_fs_5 dX11_same_10 ?_
  refine lv_iload_n hx hb dX11_same_13 rfl (lv_at hl 3 rfl) ?_
  have hPc := hP.sub (ws' := [(h1, .inr (1, gs))]) [1] rfl
  have hDc := hD.sub (ws' := [(h1, .inr (1, gs))]) [1] (by decide) rfl
  have hKc := hK.sub (tys' := []) [] rfl
  have hFc := va_free (wc := [(h1, .inr (1, gs))]) hD hS hA [1] rfl
  refine va_callq (va_runV (As := [.int p1]) (rest := []) ⟨hx, hb, hml, hown, hts⟩ (c_X1_get l dC dI H.size h1 gs hn_gs e_gs_2 p1) (cwV 1 hts g_c_X11_same_c_X1_get_0 rfl rfl rfl (by decide +kernel) ⟨Nat.le_of_ble_eq_true rfl, Nat.le_of_ble_eq_true rfl⟩) ⟨fun a U g mk q => by obtain ⟨q0, q1, qP, qK, qD⟩ := q; exact ⟨q0, q1, qP, va_K.moved (u := U) (U := U.calling g mk a) (Vm.Alike.refl U.vm) qK, qD⟩, va_recv hKc hPc (ci := 1) (q0 := 0) rfl rfl, fun U hU hW => ⟨rfl, by rw [hU], by rw [hU]; exact hPc, va_K.moved hW.alike hKc, hDc.weaken (fun _ _ _ _ => trivial)⟩⟩ rfl rfl hl.1 rfl (lv_room (Nat.le_of_ble_eq_true rfl)) dX11_same_14 ⟨Nat.le_of_ble_eq_true rfl, Nat.le_of_ble_eq_true rfl⟩) hS (fun q _ h => hFc q h) hFc (fun r_2 u t H1 locs ht hvm hw hB hz1 hk1 hS => ?_)
  obtain ⟨hP1, hD1⟩ := hB
  rw [ht] at hP1
  obtain ⟨hP, hD⟩ := va_join (wr := [(h0, .inr (11, fs))]) (w1 := [(h1, .inr (1, gs))]) hP hD [1] [0] rfl rfl (by decide) (by decide) hk1 hFc hP1 hD1
  generalize H1 = H at hP hS ⊢
  have hP : va_P (dC, dI) vwCl [(h0, .inr (11, fs)), (h1, .inr (1, gs))] H := hP
  have hD : va_D A [(h0, .inr (11, fs)), (h1, .inr (1, gs))] := hD
  refine W.widen (k := 0) (n := 0) (Nat.le_of_ble_eq_true rfl) (Nat.le_of_ble_eq_true rfl) ?_
  have e_2 : r_2 = none := hw
  subst e_2
  refine W.eq (g2 := F0 m 17 ls [.null]) rfl ?_
  refine lv_astoreN (lv' := [(4, .null), (3, .null), (0, .ref h0), (1, .int p0), (2, .int p1)]) hx hb dX11_same_17 hl (by decide) rfl (fun ls hl => ?_)
  refine lv_aload_nN hx hb dX11_same_19 rfl (lv_at hl 1 rfl) ?_
  refine lv_ifnullN (tgt := 28) hx hb dX11_same_20 (by decide) ?_
  refine lv_iconst (v := (-1)) hx hb dX11_same_28 (by decide) ?_
  refine W.widen (k := 0) (n := 0) (Nat.le_of_ble_eq_true rfl) (Nat.le_of_ble_eq_true rfl) ?_
  exact W.iret (v := (-1)) hx hb hr (fun t ht hW => ⟨⟨(-1), (), rfl, rfl, trivial⟩, hS.F ht⟩) hS.2.2 dX11_same_29
def u_c_X11_alike : List Cond := .code yX11_alike cX11_alike 6 (some .int) :: ([.fieldLink RX11 39 "CakePapers" "desk" "LCakePapers$Desk;", .code yX1_get cX1_get 2 (some (.object "CakePapers$Paper")), .fieldLink RX1 24 "CakePapers$Desk" "count" "I", .methodLink RX11 148 yX1_get, .instanceMethod yX1_get, .selects RX1 yX1_get yX1_get, .initialized RX1] ++ wsX110 ++ wsX10)
theorem iX11_c_X11_alike : ∀ w ∈ wsX110, w ∈ u_c_X11_alike := fun w h => List.mem_cons_of_mem _ (List.mem_append_left _ (List.mem_append_right _ h))
theorem iX1_c_X11_alike : ∀ w ∈ wsX10, w ∈ u_c_X11_alike := fun w h => List.mem_cons_of_mem _ (List.mem_append_right _ h)
set_option maxRecDepth 20000 in
theorem g_c_X11_alike_c_X1_get_0 : GoodIn u_c_X11_alike (wsV RX11 148 RX1 yX1_get u_c_X1_get) := goodIn_app (goodIn_of _ (by decide +kernel)) (goodIn_ca (goodIn_of (.code yX1_get cX1_get 2 (some (.object "CakePapers$Paper")) :: [.fieldLink RX1 24 "CakePapers$Desk" "count" "I"]) (by decide +kernel)) (goodIn_sub iX1_c_X11_alike zgX1))
set_option maxHeartbeats 1000000 in
set_option maxRecDepth 100000 in
theorem c_X11_alike (l : Launch) (dC : Nat → ClassId) (dI : Nat → Nat → Nat) (sz : Nat) (h0 h1 : Nat) (fs : List Value) (hn_fs : fs.length = 16) (e_fs_5 : fs[5]? = some (.ref h1)) (gs : List Value) (hn_gs : gs.length = 3) (e_gs_2 : gs[2]? = some (.int 0)) (p0 : Int32) (p1 : Int32) (p2 : Int32) : Met l yX11_alike u_c_X11_alike ({ frames := 1, cells := 0, slots := 0, locals := 21 }) (va_Pc [.ref h0, .int p0, .int p1, .int p2] (fun U => U.heap.size = sz ∧ va_P (dC, dI) vwCl [(h0, .inr (11, fs)), (h1, .inr (1, gs))] U.heap ∧ va_K (dC, dI) vwCl [] U ∧ va_D (fun _ => True) [(h0, .inr (11, fs)), (h1, .inr (1, gs))])) (va_Qi (fun (r : Int32) (_ : Unit) => r = (-1)) (fun _ _ => True) (va_A [(h0, .inr (11, fs)), (h1, .inr (1, gs))] sz)) 0 0 (va_A [(h0, .inr (11, fs)), (h1, .inr (1, gs))] sz) := by
  refine Met.ofW (cc := cX11_alike) (maxL := 6) (ret := (some .int)) (by decide) rfl ?_
  intro p e s m args below meth c s₁ B hml hv
  obtain ⟨rfl, hsz, hP, hK, hD0⟩ := hv
  have hx := B.exec
  have hb := B.bytes
  have hr := B.returns
  have hts := atoms_spec (ws := u_c_X11_alike) B.pre
  have hown : s.vm.findClass RX11 = some m.cls := findClass_of_methodNamed B.named
  have hlocks := B.notSynchronized
  have hiX11 := iX11_c_X11_alike
  have hiX1 := iX1_c_X11_alike
  subst hsz
  have hD := hD0.self (sz := s.heap.size)
  generalize hAe : va_A [(h0, .inr (11, fs)), (h1, .inr (1, gs))] s.heap.size = A at hD ⊢
  have hA : ∀ q : Nat, s.heap.size ≤ q → A q := fun q h => by rw [← hAe]; exact Or.inr h
  have hS : va_S A s.heap s.heap [] := va_S.rf
  obtain ⟨H, hH⟩ : ∃ H : Heap, H = s.heap := ⟨_, rfl⟩
  have hP : va_P (dC, dI) vwCl [(h0, .inr (11, fs)), (h1, .inr (1, gs))] H := by rw [hH]; exact hP
  have hS : va_S A s.heap H [] := by rw [hH]; exact hS
  have hl := lv_entry ([.ref h0, .int p0, .int p1, .int p2]) (n := 6) (Nat.le_of_ble_eq_true rfl)
  rw [lg_entry_eq]
  generalize (lg_sl ([.ref h0, .int p0, .int p1, .int p2]) ++ List.replicate (6 - (lg_sl ([.ref h0, .int p0, .int p1, .int p2])).length) Slot.unset).toArray = ls at hl ⊢
  have hl : lv_has ls 6 [(0, .ref h0), (1, .int p0), (2, .int p1), (3, .int p2)] := hl
  suffices h9 : W p l e (headSpec u_c_X11_alike _).room s m _ below meth c H [] 0 0 _ (F0 m 0 ls []) by rw [hH] at h9; exact h9
  refine lv_aload_n hx hb dX11_alike_0 rfl (lv_at hl 0 rfl) ?_
  refine va_get (D := (dC, dI)) (ci := 11) (v := .ref h1) (C := RX11) (T := TX11) (N := 16) hx hb hts hiX11 hown hK hP 0 rfl rfl 5 (by decide) (hts (.fieldLink RX11 39 "CakePapers" "desk" "LCakePapers$Desk;") (by decide +kernel)) (fun _ h9 => h9) e_fs_5 dX11_alike_1 ?_
  refine lv_iload_n hx hb dX11_alike_4 rfl (lv_at hl 1 rfl) ?_
  have hPc := hP.sub (ws' := [(h1, .inr (1, gs))]) [1] rfl
  have hDc := hD.sub (ws' := [(h1, .inr (1, gs))]) [1] (by decide) rfl
  have hKc := hK.sub (tys' := []) [] rfl
  have hFc := va_free (wc := [(h1, .inr (1, gs))]) hD hS hA [1] rfl
  refine va_callq (va_runV (As := [.int p0]) (rest := []) ⟨hx, hb, hml, hown, hts⟩ (c_X1_get l dC dI H.size h1 gs hn_gs e_gs_2 p0) (cwV 1 hts g_c_X11_alike_c_X1_get_0 rfl rfl rfl (by decide +kernel) ⟨Nat.le_of_ble_eq_true rfl, Nat.le_of_ble_eq_true rfl⟩) ⟨fun a U g mk q => by obtain ⟨q0, q1, qP, qK, qD⟩ := q; exact ⟨q0, q1, qP, va_K.moved (u := U) (U := U.calling g mk a) (Vm.Alike.refl U.vm) qK, qD⟩, va_recv hKc hPc (ci := 1) (q0 := 0) rfl rfl, fun U hU hW => ⟨rfl, by rw [hU], by rw [hU]; exact hPc, va_K.moved hW.alike hKc, hDc.weaken (fun _ _ _ _ => trivial)⟩⟩ rfl rfl hl.1 rfl (lv_room (Nat.le_of_ble_eq_true rfl)) dX11_alike_5 ⟨Nat.le_of_ble_eq_true rfl, Nat.le_of_ble_eq_true rfl⟩) hS (fun q _ h => hFc q h) hFc (fun r_1 u t H1 locs ht hvm hw hB hz1 hk1 hS => ?_)
  obtain ⟨hP1, hD1⟩ := hB
  rw [ht] at hP1
  obtain ⟨hP, hD⟩ := va_join (wr := [(h0, .inr (11, fs))]) (w1 := [(h1, .inr (1, gs))]) hP hD [1] [0] rfl rfl (by decide) (by decide) hk1 hFc hP1 hD1
  generalize H1 = H at hP hS ⊢
  have hP : va_P (dC, dI) vwCl [(h0, .inr (11, fs)), (h1, .inr (1, gs))] H := hP
  have hD : va_D A [(h0, .inr (11, fs)), (h1, .inr (1, gs))] := hD
  refine W.widen (k := 0) (n := 0) (Nat.le_of_ble_eq_true rfl) (Nat.le_of_ble_eq_true rfl) ?_
  have e_1 : r_1 = none := hw
  subst e_1
  refine W.eq (g2 := F0 m 8 ls [.null]) rfl ?_
  refine lv_astoreN (lv' := [(4, .null), (0, .ref h0), (1, .int p0), (2, .int p1), (3, .int p2)]) hx hb dX11_alike_8 hl (by decide) rfl (fun ls hl => ?_)
  refine lv_aload_n hx hb dX11_alike_10 rfl (lv_at hl 1 rfl) ?_
  refine va_get (D := (dC, dI)) (ci := 11) (v := .ref h1) (C := RX11) (T := TX11) (N := 16) hx hb hts hiX11 hown hK hP 0 rfl rfl 5 (by decide) (hts (.fieldLink RX11 39 "CakePapers" "desk" "LCakePapers$Desk;") (by decide +kernel)) (fun _ h9 => h9) e_fs_5 dX11_alike_11 ?_
  refine lv_iload_n hx hb dX11_alike_14 rfl (lv_at hl 4 rfl) ?_
  have hPc := hP.sub (ws' := [(h1, .inr (1, gs))]) [1] rfl
  have hDc := hD.sub (ws' := [(h1, .inr (1, gs))]) [1] (by decide) rfl
  have hKc := hK.sub (tys' := []) [] rfl
  have hFc := va_free (wc := [(h1, .inr (1, gs))]) hD hS hA [1] rfl
  refine va_callq (va_runV (As := [.int p2]) (rest := []) ⟨hx, hb, hml, hown, hts⟩ (c_X1_get l dC dI H.size h1 gs hn_gs e_gs_2 p2) (cwV 1 hts g_c_X11_alike_c_X1_get_0 rfl rfl rfl (by decide +kernel) ⟨Nat.le_of_ble_eq_true rfl, Nat.le_of_ble_eq_true rfl⟩) ⟨fun a U g mk q => by obtain ⟨q0, q1, qP, qK, qD⟩ := q; exact ⟨q0, q1, qP, va_K.moved (u := U) (U := U.calling g mk a) (Vm.Alike.refl U.vm) qK, qD⟩, va_recv hKc hPc (ci := 1) (q0 := 0) rfl rfl, fun U hU hW => ⟨rfl, by rw [hU], by rw [hU]; exact hPc, va_K.moved hW.alike hKc, hDc.weaken (fun _ _ _ _ => trivial)⟩⟩ rfl rfl hl.1 rfl (lv_room (Nat.le_of_ble_eq_true rfl)) dX11_alike_15 ⟨Nat.le_of_ble_eq_true rfl, Nat.le_of_ble_eq_true rfl⟩) hS (fun q _ h => hFc q h) hFc (fun r_2 u t H1 locs ht hvm hw hB hz1 hk1 hS => ?_)
  obtain ⟨hP1, hD1⟩ := hB
  rw [ht] at hP1
  obtain ⟨hP, hD⟩ := va_join (wr := [(h0, .inr (11, fs))]) (w1 := [(h1, .inr (1, gs))]) hP hD [1] [0] rfl rfl (by decide) (by decide) hk1 hFc hP1 hD1
  generalize H1 = H at hP hS ⊢
  have hP : va_P (dC, dI) vwCl [(h0, .inr (11, fs)), (h1, .inr (1, gs))] H := hP
  have hD : va_D A [(h0, .inr (11, fs)), (h1, .inr (1, gs))] := hD
  refine W.widen (k := 0) (n := 0) (Nat.le_of_ble_eq_true rfl) (Nat.le_of_ble_eq_true rfl) ?_
  have e_2 : r_2 = none := hw
  subst e_2
  refine W.eq (g2 := F0 m 18 ls [.null]) rfl ?_
  refine lv_astoreN (lv' := [(5, .null), (4, .null), (0, .ref h0), (1, .int p0), (2, .int p1), (3, .int p2)]) hx hb dX11_alike_18 hl (by decide) rfl (fun ls hl => ?_)
  refine lv_aloadN hx hb dX11_alike_20 (lv_at hl 1 rfl) ?_
  refine lv_ifnullN (tgt := 39) hx hb dX11_alike_22 (by decide) ?_
  refine lv_iconst (v := (-1)) hx hb dX11_alike_39 (by decide) ?_
  refine W.widen (k := 0) (n := 0) (Nat.le_of_ble_eq_true rfl) (Nat.le_of_ble_eq_true rfl) ?_
  exact W.iret (v := (-1)) hx hb hr (fun t ht hW => ⟨⟨(-1), (), rfl, rfl, trivial⟩, hS.F ht⟩) hS.2.2 dX11_alike_40
def u_c_X11_least : List Cond := .code yX11_least cX11_least 5 (some .int) :: ([.fieldLink RX11 39 "CakePapers" "desk" "LCakePapers$Desk;", .code yX1_get cX1_get 2 (some (.object "CakePapers$Paper")), .fieldLink RX1 24 "CakePapers$Desk" "count" "I", .methodLink RX11 148 yX1_get, .instanceMethod yX1_get, .selects RX1 yX1_get yX1_get, .initialized RX1] ++ wsX110 ++ wsX10)
theorem iX11_c_X11_least : ∀ w ∈ wsX110, w ∈ u_c_X11_least := fun w h => List.mem_cons_of_mem _ (List.mem_append_left _ (List.mem_append_right _ h))
theorem iX1_c_X11_least : ∀ w ∈ wsX10, w ∈ u_c_X11_least := fun w h => List.mem_cons_of_mem _ (List.mem_append_right _ h)
set_option maxRecDepth 20000 in
theorem g_c_X11_least_c_X1_get_0 : GoodIn u_c_X11_least (wsV RX11 148 RX1 yX1_get u_c_X1_get) := goodIn_app (goodIn_of _ (by decide +kernel)) (goodIn_ca (goodIn_of (.code yX1_get cX1_get 2 (some (.object "CakePapers$Paper")) :: [.fieldLink RX1 24 "CakePapers$Desk" "count" "I"]) (by decide +kernel)) (goodIn_sub iX1_c_X11_least zgX1))
set_option maxHeartbeats 1000000 in
set_option maxRecDepth 100000 in
theorem c_X11_least (l : Launch) (dC : Nat → ClassId) (dI : Nat → Nat → Nat) (sz : Nat) (h0 h1 : Nat) (fs : List Value) (hn_fs : fs.length = 16) (e_fs_5 : fs[5]? = some (.ref h1)) (gs : List Value) (hn_gs : gs.length = 3) (e_gs_2 : gs[2]? = some (.int 0)) (p0 : Int32) (p1 : Int32) : Met l yX11_least u_c_X11_least ({ frames := 1, cells := 0, slots := 0, locals := 21 }) (va_Pc [.ref h0, .int p0, .int p1] (fun U => U.heap.size = sz ∧ va_P (dC, dI) vwCl [(h0, .inr (11, fs)), (h1, .inr (1, gs))] U.heap ∧ va_K (dC, dI) vwCl [] U ∧ va_D (fun _ => True) [(h0, .inr (11, fs)), (h1, .inr (1, gs))])) (va_Qi (fun (r : Int32) (_ : Unit) => r = (-1)) (fun _ _ => True) (va_A [(h0, .inr (11, fs)), (h1, .inr (1, gs))] sz)) 0 0 (va_A [(h0, .inr (11, fs)), (h1, .inr (1, gs))] sz) := by
  refine Met.ofW (cc := cX11_least) (maxL := 5) (ret := (some .int)) (by decide) rfl ?_
  intro p e s m args below meth c s₁ B hml hv
  obtain ⟨rfl, hsz, hP, hK, hD0⟩ := hv
  have hx := B.exec
  have hb := B.bytes
  have hr := B.returns
  have hts := atoms_spec (ws := u_c_X11_least) B.pre
  have hown : s.vm.findClass RX11 = some m.cls := findClass_of_methodNamed B.named
  have hlocks := B.notSynchronized
  have hiX11 := iX11_c_X11_least
  have hiX1 := iX1_c_X11_least
  subst hsz
  have hD := hD0.self (sz := s.heap.size)
  generalize hAe : va_A [(h0, .inr (11, fs)), (h1, .inr (1, gs))] s.heap.size = A at hD ⊢
  have hA : ∀ q : Nat, s.heap.size ≤ q → A q := fun q h => by rw [← hAe]; exact Or.inr h
  have hS : va_S A s.heap s.heap [] := va_S.rf
  obtain ⟨H, hH⟩ : ∃ H : Heap, H = s.heap := ⟨_, rfl⟩
  have hP : va_P (dC, dI) vwCl [(h0, .inr (11, fs)), (h1, .inr (1, gs))] H := by rw [hH]; exact hP
  have hS : va_S A s.heap H [] := by rw [hH]; exact hS
  have hl := lv_entry ([.ref h0, .int p0, .int p1]) (n := 5) (Nat.le_of_ble_eq_true rfl)
  rw [lg_entry_eq]
  generalize (lg_sl ([.ref h0, .int p0, .int p1]) ++ List.replicate (5 - (lg_sl ([.ref h0, .int p0, .int p1])).length) Slot.unset).toArray = ls at hl ⊢
  have hl : lv_has ls 5 [(0, .ref h0), (1, .int p0), (2, .int p1)] := hl
  suffices h9 : W p l e (headSpec u_c_X11_least _).room s m _ below meth c H [] 0 0 _ (F0 m 0 ls []) by rw [hH] at h9; exact h9
  refine lv_aload_n hx hb dX11_least_0 rfl (lv_at hl 0 rfl) ?_
  refine va_get (D := (dC, dI)) (ci := 11) (v := .ref h1) (C := RX11) (T := TX11) (N := 16) hx hb hts hiX11 hown hK hP 0 rfl rfl 5 (by decide) (hts (.fieldLink RX11 39 "CakePapers" "desk" "LCakePapers$Desk;") (by decide +kernel)) (fun _ h9 => h9) e_fs_5 dX11_least_1 ?_
  refine lv_iload_n hx hb dX11_least_4 rfl (lv_at hl 1 rfl) ?_
  have hPc := hP.sub (ws' := [(h1, .inr (1, gs))]) [1] rfl
  have hDc := hD.sub (ws' := [(h1, .inr (1, gs))]) [1] (by decide) rfl
  have hKc := hK.sub (tys' := []) [] rfl
  have hFc := va_free (wc := [(h1, .inr (1, gs))]) hD hS hA [1] rfl
  refine va_callq (va_runV (As := [.int p0]) (rest := []) ⟨hx, hb, hml, hown, hts⟩ (c_X1_get l dC dI H.size h1 gs hn_gs e_gs_2 p0) (cwV 1 hts g_c_X11_least_c_X1_get_0 rfl rfl rfl (by decide +kernel) ⟨Nat.le_of_ble_eq_true rfl, Nat.le_of_ble_eq_true rfl⟩) ⟨fun a U g mk q => by obtain ⟨q0, q1, qP, qK, qD⟩ := q; exact ⟨q0, q1, qP, va_K.moved (u := U) (U := U.calling g mk a) (Vm.Alike.refl U.vm) qK, qD⟩, va_recv hKc hPc (ci := 1) (q0 := 0) rfl rfl, fun U hU hW => ⟨rfl, by rw [hU], by rw [hU]; exact hPc, va_K.moved hW.alike hKc, hDc.weaken (fun _ _ _ _ => trivial)⟩⟩ rfl rfl hl.1 rfl (lv_room (Nat.le_of_ble_eq_true rfl)) dX11_least_5 ⟨Nat.le_of_ble_eq_true rfl, Nat.le_of_ble_eq_true rfl⟩) hS (fun q _ h => hFc q h) hFc (fun r_1 u t H1 locs ht hvm hw hB hz1 hk1 hS => ?_)
  obtain ⟨hP1, hD1⟩ := hB
  rw [ht] at hP1
  obtain ⟨hP, hD⟩ := va_join (wr := [(h0, .inr (11, fs))]) (w1 := [(h1, .inr (1, gs))]) hP hD [1] [0] rfl rfl (by decide) (by decide) hk1 hFc hP1 hD1
  generalize H1 = H at hP hS ⊢
  have hP : va_P (dC, dI) vwCl [(h0, .inr (11, fs)), (h1, .inr (1, gs))] H := hP
  have hD : va_D A [(h0, .inr (11, fs)), (h1, .inr (1, gs))] := hD
  refine W.widen (k := 0) (n := 0) (Nat.le_of_ble_eq_true rfl) (Nat.le_of_ble_eq_true rfl) ?_
  have e_1 : r_1 = none := hw
  subst e_1
  refine W.eq (g2 := F0 m 8 ls [.null]) rfl ?_
  refine lv_astore_nN (lv' := [(3, .null), (0, .ref h0), (1, .int p0), (2, .int p1)]) hx hb dX11_least_8 rfl hl (by decide) rfl (fun ls hl => ?_)
  refine lv_aload_n hx hb dX11_least_9 rfl (lv_at hl 1 rfl) ?_
  refine va_get (D := (dC, dI)) (ci := 11) (v := .ref h1) (C := RX11) (T := TX11) (N := 16) hx hb hts hiX11 hown hK hP 0 rfl rfl 5 (by decide) (hts (.fieldLink RX11 39 "CakePapers" "desk" "LCakePapers$Desk;") (by decide +kernel)) (fun _ h9 => h9) e_fs_5 dX11_least_10 ?_
  refine lv_iload_n hx hb dX11_least_13 rfl (lv_at hl 3 rfl) ?_
  have hPc := hP.sub (ws' := [(h1, .inr (1, gs))]) [1] rfl
  have hDc := hD.sub (ws' := [(h1, .inr (1, gs))]) [1] (by decide) rfl
  have hKc := hK.sub (tys' := []) [] rfl
  have hFc := va_free (wc := [(h1, .inr (1, gs))]) hD hS hA [1] rfl
  refine va_callq (va_runV (As := [.int p1]) (rest := []) ⟨hx, hb, hml, hown, hts⟩ (c_X1_get l dC dI H.size h1 gs hn_gs e_gs_2 p1) (cwV 1 hts g_c_X11_least_c_X1_get_0 rfl rfl rfl (by decide +kernel) ⟨Nat.le_of_ble_eq_true rfl, Nat.le_of_ble_eq_true rfl⟩) ⟨fun a U g mk q => by obtain ⟨q0, q1, qP, qK, qD⟩ := q; exact ⟨q0, q1, qP, va_K.moved (u := U) (U := U.calling g mk a) (Vm.Alike.refl U.vm) qK, qD⟩, va_recv hKc hPc (ci := 1) (q0 := 0) rfl rfl, fun U hU hW => ⟨rfl, by rw [hU], by rw [hU]; exact hPc, va_K.moved hW.alike hKc, hDc.weaken (fun _ _ _ _ => trivial)⟩⟩ rfl rfl hl.1 rfl (lv_room (Nat.le_of_ble_eq_true rfl)) dX11_least_14 ⟨Nat.le_of_ble_eq_true rfl, Nat.le_of_ble_eq_true rfl⟩) hS (fun q _ h => hFc q h) hFc (fun r_2 u t H1 locs ht hvm hw hB hz1 hk1 hS => ?_)
  obtain ⟨hP1, hD1⟩ := hB
  rw [ht] at hP1
  obtain ⟨hP, hD⟩ := va_join (wr := [(h0, .inr (11, fs))]) (w1 := [(h1, .inr (1, gs))]) hP hD [1] [0] rfl rfl (by decide) (by decide) hk1 hFc hP1 hD1
  generalize H1 = H at hP hS ⊢
  have hP : va_P (dC, dI) vwCl [(h0, .inr (11, fs)), (h1, .inr (1, gs))] H := hP
  have hD : va_D A [(h0, .inr (11, fs)), (h1, .inr (1, gs))] := hD
  refine W.widen (k := 0) (n := 0) (Nat.le_of_ble_eq_true rfl) (Nat.le_of_ble_eq_true rfl) ?_
  have e_2 : r_2 = none := hw
  subst e_2
  refine W.eq (g2 := F0 m 17 ls [.null]) rfl ?_
  refine lv_astoreN (lv' := [(4, .null), (3, .null), (0, .ref h0), (1, .int p0), (2, .int p1)]) hx hb dX11_least_17 hl (by decide) rfl (fun ls hl => ?_)
  refine lv_aload_nN hx hb dX11_least_19 rfl (lv_at hl 1 rfl) ?_
  refine lv_ifnullN (tgt := 28) hx hb dX11_least_20 (by decide) ?_
  refine lv_iconst (v := (-1)) hx hb dX11_least_28 (by decide) ?_
  refine W.widen (k := 0) (n := 0) (Nat.le_of_ble_eq_true rfl) (Nat.le_of_ble_eq_true rfl) ?_
  exact W.iret (v := (-1)) hx hb hr (fun t ht hW => ⟨⟨(-1), (), rfl, rfl, trivial⟩, hS.F ht⟩) hS.2.2 dX11_least_29
def u_c_X11_join : List Cond := .code yX11_join cX11_join 7 (some .int) :: ([.fieldLink RX11 39 "CakePapers" "desk" "LCakePapers$Desk;", .code yX1_get cX1_get 2 (some (.object "CakePapers$Paper")), .fieldLink RX1 24 "CakePapers$Desk" "count" "I", .methodLink RX11 148 yX1_get, .instanceMethod yX1_get, .selects RX1 yX1_get yX1_get, .initialized RX1] ++ wsX110 ++ wsX10)
theorem iX11_c_X11_join : ∀ w ∈ wsX110, w ∈ u_c_X11_join := fun w h => List.mem_cons_of_mem _ (List.mem_append_left _ (List.mem_append_right _ h))
theorem iX1_c_X11_join : ∀ w ∈ wsX10, w ∈ u_c_X11_join := fun w h => List.mem_cons_of_mem _ (List.mem_append_right _ h)
set_option maxRecDepth 20000 in
theorem g_c_X11_join_c_X1_get_0 : GoodIn u_c_X11_join (wsV RX11 148 RX1 yX1_get u_c_X1_get) := goodIn_app (goodIn_of _ (by decide +kernel)) (goodIn_ca (goodIn_of (.code yX1_get cX1_get 2 (some (.object "CakePapers$Paper")) :: [.fieldLink RX1 24 "CakePapers$Desk" "count" "I"]) (by decide +kernel)) (goodIn_sub iX1_c_X11_join zgX1))
set_option maxHeartbeats 1000000 in
set_option maxRecDepth 100000 in
theorem c_X11_join (l : Launch) (dC : Nat → ClassId) (dI : Nat → Nat → Nat) (sz : Nat) (h0 h1 : Nat) (fs : List Value) (hn_fs : fs.length = 16) (e_fs_5 : fs[5]? = some (.ref h1)) (gs : List Value) (hn_gs : gs.length = 3) (e_gs_2 : gs[2]? = some (.int 0)) (p0 : Int32) (p1 : Int32) (p2 : Int32) : Met l yX11_join u_c_X11_join ({ frames := 1, cells := 0, slots := 0, locals := 21 }) (va_Pc [.ref h0, .int p0, .int p1, .int p2] (fun U => U.heap.size = sz ∧ va_P (dC, dI) vwCl [(h0, .inr (11, fs)), (h1, .inr (1, gs))] U.heap ∧ va_K (dC, dI) vwCl [] U ∧ va_D (fun _ => True) [(h0, .inr (11, fs)), (h1, .inr (1, gs))])) (va_Qi (fun (r : Int32) (_ : Unit) => r = (-1)) (fun _ _ => True) (va_A [(h0, .inr (11, fs)), (h1, .inr (1, gs))] sz)) 0 0 (va_A [(h0, .inr (11, fs)), (h1, .inr (1, gs))] sz) := by
  refine Met.ofW (cc := cX11_join) (maxL := 7) (ret := (some .int)) (by decide) rfl ?_
  intro p e s m args below meth c s₁ B hml hv
  obtain ⟨rfl, hsz, hP, hK, hD0⟩ := hv
  have hx := B.exec
  have hb := B.bytes
  have hr := B.returns
  have hts := atoms_spec (ws := u_c_X11_join) B.pre
  have hown : s.vm.findClass RX11 = some m.cls := findClass_of_methodNamed B.named
  have hlocks := B.notSynchronized
  have hiX11 := iX11_c_X11_join
  have hiX1 := iX1_c_X11_join
  subst hsz
  have hD := hD0.self (sz := s.heap.size)
  generalize hAe : va_A [(h0, .inr (11, fs)), (h1, .inr (1, gs))] s.heap.size = A at hD ⊢
  have hA : ∀ q : Nat, s.heap.size ≤ q → A q := fun q h => by rw [← hAe]; exact Or.inr h
  have hS : va_S A s.heap s.heap [] := va_S.rf
  obtain ⟨H, hH⟩ : ∃ H : Heap, H = s.heap := ⟨_, rfl⟩
  have hP : va_P (dC, dI) vwCl [(h0, .inr (11, fs)), (h1, .inr (1, gs))] H := by rw [hH]; exact hP
  have hS : va_S A s.heap H [] := by rw [hH]; exact hS
  have hl := lv_entry ([.ref h0, .int p0, .int p1, .int p2]) (n := 7) (Nat.le_of_ble_eq_true rfl)
  rw [lg_entry_eq]
  generalize (lg_sl ([.ref h0, .int p0, .int p1, .int p2]) ++ List.replicate (7 - (lg_sl ([.ref h0, .int p0, .int p1, .int p2])).length) Slot.unset).toArray = ls at hl ⊢
  have hl : lv_has ls 7 [(0, .ref h0), (1, .int p0), (2, .int p1), (3, .int p2)] := hl
  suffices h9 : W p l e (headSpec u_c_X11_join _).room s m _ below meth c H [] 0 0 _ (F0 m 0 ls []) by rw [hH] at h9; exact h9
  refine lv_aload_n hx hb dX11_join_0 rfl (lv_at hl 0 rfl) ?_
  refine va_get (D := (dC, dI)) (ci := 11) (v := .ref h1) (C := RX11) (T := TX11) (N := 16) hx hb hts hiX11 hown hK hP 0 rfl rfl 5 (by decide) (hts (.fieldLink RX11 39 "CakePapers" "desk" "LCakePapers$Desk;") (by decide +kernel)) (fun _ h9 => h9) e_fs_5 dX11_join_1 ?_
  refine lv_iload_n hx hb dX11_join_4 rfl (lv_at hl 1 rfl) ?_
  have hPc := hP.sub (ws' := [(h1, .inr (1, gs))]) [1] rfl
  have hDc := hD.sub (ws' := [(h1, .inr (1, gs))]) [1] (by decide) rfl
  have hKc := hK.sub (tys' := []) [] rfl
  have hFc := va_free (wc := [(h1, .inr (1, gs))]) hD hS hA [1] rfl
  refine va_callq (va_runV (As := [.int p0]) (rest := []) ⟨hx, hb, hml, hown, hts⟩ (c_X1_get l dC dI H.size h1 gs hn_gs e_gs_2 p0) (cwV 1 hts g_c_X11_join_c_X1_get_0 rfl rfl rfl (by decide +kernel) ⟨Nat.le_of_ble_eq_true rfl, Nat.le_of_ble_eq_true rfl⟩) ⟨fun a U g mk q => by obtain ⟨q0, q1, qP, qK, qD⟩ := q; exact ⟨q0, q1, qP, va_K.moved (u := U) (U := U.calling g mk a) (Vm.Alike.refl U.vm) qK, qD⟩, va_recv hKc hPc (ci := 1) (q0 := 0) rfl rfl, fun U hU hW => ⟨rfl, by rw [hU], by rw [hU]; exact hPc, va_K.moved hW.alike hKc, hDc.weaken (fun _ _ _ _ => trivial)⟩⟩ rfl rfl hl.1 rfl (lv_room (Nat.le_of_ble_eq_true rfl)) dX11_join_5 ⟨Nat.le_of_ble_eq_true rfl, Nat.le_of_ble_eq_true rfl⟩) hS (fun q _ h => hFc q h) hFc (fun r_1 u t H1 locs ht hvm hw hB hz1 hk1 hS => ?_)
  obtain ⟨hP1, hD1⟩ := hB
  rw [ht] at hP1
  obtain ⟨hP, hD⟩ := va_join (wr := [(h0, .inr (11, fs))]) (w1 := [(h1, .inr (1, gs))]) hP hD [1] [0] rfl rfl (by decide) (by decide) hk1 hFc hP1 hD1
  generalize H1 = H at hP hS ⊢
  have hP : va_P (dC, dI) vwCl [(h0, .inr (11, fs)), (h1, .inr (1, gs))] H := hP
  have hD : va_D A [(h0, .inr (11, fs)), (h1, .inr (1, gs))] := hD
  refine W.widen (k := 0) (n := 0) (Nat.le_of_ble_eq_true rfl) (Nat.le_of_ble_eq_true rfl) ?_
  have e_1 : r_1 = none := hw
  subst e_1
  refine W.eq (g2 := F0 m 8 ls [.null]) rfl ?_
  refine lv_astoreN (lv' := [(4, .null), (0, .ref h0), (1, .int p0), (2, .int p1), (3, .int p2)]) hx hb dX11_join_8 hl (by decide) rfl (fun ls hl => ?_)
  refine lv_aload_n hx hb dX11_join_10 rfl (lv_at hl 1 rfl) ?_
  refine va_get (D := (dC, dI)) (ci := 11) (v := .ref h1) (C := RX11) (T := TX11) (N := 16) hx hb hts hiX11 hown hK hP 0 rfl rfl 5 (by decide) (hts (.fieldLink RX11 39 "CakePapers" "desk" "LCakePapers$Desk;") (by decide +kernel)) (fun _ h9 => h9) e_fs_5 dX11_join_11 ?_
  refine lv_iload_n hx hb dX11_join_14 rfl (lv_at hl 3 rfl) ?_
  have hPc := hP.sub (ws' := [(h1, .inr (1, gs))]) [1] rfl
  have hDc := hD.sub (ws' := [(h1, .inr (1, gs))]) [1] (by decide) rfl
  have hKc := hK.sub (tys' := []) [] rfl
  have hFc := va_free (wc := [(h1, .inr (1, gs))]) hD hS hA [1] rfl
  refine va_callq (va_runV (As := [.int p1]) (rest := []) ⟨hx, hb, hml, hown, hts⟩ (c_X1_get l dC dI H.size h1 gs hn_gs e_gs_2 p1) (cwV 1 hts g_c_X11_join_c_X1_get_0 rfl rfl rfl (by decide +kernel) ⟨Nat.le_of_ble_eq_true rfl, Nat.le_of_ble_eq_true rfl⟩) ⟨fun a U g mk q => by obtain ⟨q0, q1, qP, qK, qD⟩ := q; exact ⟨q0, q1, qP, va_K.moved (u := U) (U := U.calling g mk a) (Vm.Alike.refl U.vm) qK, qD⟩, va_recv hKc hPc (ci := 1) (q0 := 0) rfl rfl, fun U hU hW => ⟨rfl, by rw [hU], by rw [hU]; exact hPc, va_K.moved hW.alike hKc, hDc.weaken (fun _ _ _ _ => trivial)⟩⟩ rfl rfl hl.1 rfl (lv_room (Nat.le_of_ble_eq_true rfl)) dX11_join_15 ⟨Nat.le_of_ble_eq_true rfl, Nat.le_of_ble_eq_true rfl⟩) hS (fun q _ h => hFc q h) hFc (fun r_2 u t H1 locs ht hvm hw hB hz1 hk1 hS => ?_)
  obtain ⟨hP1, hD1⟩ := hB
  rw [ht] at hP1
  obtain ⟨hP, hD⟩ := va_join (wr := [(h0, .inr (11, fs))]) (w1 := [(h1, .inr (1, gs))]) hP hD [1] [0] rfl rfl (by decide) (by decide) hk1 hFc hP1 hD1
  generalize H1 = H at hP hS ⊢
  have hP : va_P (dC, dI) vwCl [(h0, .inr (11, fs)), (h1, .inr (1, gs))] H := hP
  have hD : va_D A [(h0, .inr (11, fs)), (h1, .inr (1, gs))] := hD
  refine W.widen (k := 0) (n := 0) (Nat.le_of_ble_eq_true rfl) (Nat.le_of_ble_eq_true rfl) ?_
  have e_2 : r_2 = none := hw
  subst e_2
  refine W.eq (g2 := F0 m 18 ls [.null]) rfl ?_
  refine lv_astoreN (lv' := [(5, .null), (4, .null), (0, .ref h0), (1, .int p0), (2, .int p1), (3, .int p2)]) hx hb dX11_join_18 hl (by decide) rfl (fun ls hl => ?_)
  refine lv_aload_n hx hb dX11_join_20 rfl (lv_at hl 2 rfl) ?_
  refine va_get (D := (dC, dI)) (ci := 11) (v := .ref h1) (C := RX11) (T := TX11) (N := 16) hx hb hts hiX11 hown hK hP 0 rfl rfl 5 (by decide) (hts (.fieldLink RX11 39 "CakePapers" "desk" "LCakePapers$Desk;") (by decide +kernel)) (fun _ h9 => h9) e_fs_5 dX11_join_21 ?_
  refine lv_iload_n hx hb dX11_join_24 rfl (lv_at hl 5 rfl) ?_
  have hPc := hP.sub (ws' := [(h1, .inr (1, gs))]) [1] rfl
  have hDc := hD.sub (ws' := [(h1, .inr (1, gs))]) [1] (by decide) rfl
  have hKc := hK.sub (tys' := []) [] rfl
  have hFc := va_free (wc := [(h1, .inr (1, gs))]) hD hS hA [1] rfl
  refine va_callq (va_runV (As := [.int p2]) (rest := []) ⟨hx, hb, hml, hown, hts⟩ (c_X1_get l dC dI H.size h1 gs hn_gs e_gs_2 p2) (cwV 1 hts g_c_X11_join_c_X1_get_0 rfl rfl rfl (by decide +kernel) ⟨Nat.le_of_ble_eq_true rfl, Nat.le_of_ble_eq_true rfl⟩) ⟨fun a U g mk q => by obtain ⟨q0, q1, qP, qK, qD⟩ := q; exact ⟨q0, q1, qP, va_K.moved (u := U) (U := U.calling g mk a) (Vm.Alike.refl U.vm) qK, qD⟩, va_recv hKc hPc (ci := 1) (q0 := 0) rfl rfl, fun U hU hW => ⟨rfl, by rw [hU], by rw [hU]; exact hPc, va_K.moved hW.alike hKc, hDc.weaken (fun _ _ _ _ => trivial)⟩⟩ rfl rfl hl.1 rfl (lv_room (Nat.le_of_ble_eq_true rfl)) dX11_join_25 ⟨Nat.le_of_ble_eq_true rfl, Nat.le_of_ble_eq_true rfl⟩) hS (fun q _ h => hFc q h) hFc (fun r_3 u t H1 locs ht hvm hw hB hz1 hk1 hS => ?_)
  obtain ⟨hP1, hD1⟩ := hB
  rw [ht] at hP1
  obtain ⟨hP, hD⟩ := va_join (wr := [(h0, .inr (11, fs))]) (w1 := [(h1, .inr (1, gs))]) hP hD [1] [0] rfl rfl (by decide) (by decide) hk1 hFc hP1 hD1
  generalize H1 = H at hP hS ⊢
  have hP : va_P (dC, dI) vwCl [(h0, .inr (11, fs)), (h1, .inr (1, gs))] H := hP
  have hD : va_D A [(h0, .inr (11, fs)), (h1, .inr (1, gs))] := hD
  refine W.widen (k := 0) (n := 0) (Nat.le_of_ble_eq_true rfl) (Nat.le_of_ble_eq_true rfl) ?_
  have e_3 : r_3 = none := hw
  subst e_3
  refine W.eq (g2 := F0 m 28 ls [.null]) rfl ?_
  refine lv_astoreN (lv' := [(6, .null), (5, .null), (4, .null), (0, .ref h0), (1, .int p0), (2, .int p1), (3, .int p2)]) hx hb dX11_join_28 hl (by decide) rfl (fun ls hl => ?_)
  refine lv_aloadN hx hb dX11_join_30 (lv_at hl 2 rfl) ?_
  refine lv_ifnullN (tgt := 45) hx hb dX11_join_32 (by decide) ?_
  refine lv_iconst (v := (-1)) hx hb dX11_join_45 (by decide) ?_
  refine W.widen (k := 0) (n := 0) (Nat.le_of_ble_eq_true rfl) (Nat.le_of_ble_eq_true rfl) ?_
  exact W.iret (v := (-1)) hx hb hr (fun t ht hW => ⟨⟨(-1), (), rfl, rfl, trivial⟩, hS.F ht⟩) hS.2.2 dX11_join_46
def u_c_X11_law : List Cond := .code yX11_law cX11_law 10 (some .int) :: ([.fieldLink RX11 39 "CakePapers" "desk" "LCakePapers$Desk;", .code yX1_get cX1_get 2 (some (.object "CakePapers$Paper")), .fieldLink RX1 24 "CakePapers$Desk" "count" "I", .methodLink RX11 148 yX1_get, .instanceMethod yX1_get, .selects RX1 yX1_get yX1_get, .initialized RX1] ++ wsX110 ++ wsX10)
theorem iX11_c_X11_law : ∀ w ∈ wsX110, w ∈ u_c_X11_law := fun w h => List.mem_cons_of_mem _ (List.mem_append_left _ (List.mem_append_right _ h))
theorem iX1_c_X11_law : ∀ w ∈ wsX10, w ∈ u_c_X11_law := fun w h => List.mem_cons_of_mem _ (List.mem_append_right _ h)
set_option maxRecDepth 20000 in
theorem g_c_X11_law_c_X1_get_0 : GoodIn u_c_X11_law (wsV RX11 148 RX1 yX1_get u_c_X1_get) := goodIn_app (goodIn_of _ (by decide +kernel)) (goodIn_ca (goodIn_of (.code yX1_get cX1_get 2 (some (.object "CakePapers$Paper")) :: [.fieldLink RX1 24 "CakePapers$Desk" "count" "I"]) (by decide +kernel)) (goodIn_sub iX1_c_X11_law zgX1))
set_option maxHeartbeats 1000000 in
set_option maxRecDepth 100000 in
theorem c_X11_law (l : Launch) (dC : Nat → ClassId) (dI : Nat → Nat → Nat) (sz : Nat) (h0 h1 : Nat) (fs : List Value) (hn_fs : fs.length = 16) (e_fs_5 : fs[5]? = some (.ref h1)) (gs : List Value) (hn_gs : gs.length = 3) (e_gs_2 : gs[2]? = some (.int 0)) (p0 : Int32) (p1 : Int32) (p2 : Int32) (p3 : Int32) (p4 : Int32) : Met l yX11_law u_c_X11_law ({ frames := 1, cells := 0, slots := 0, locals := 21 }) (va_Pc [.ref h0, .int p0, .int p1, .int p2, .int p3, .int p4] (fun U => U.heap.size = sz ∧ va_P (dC, dI) vwCl [(h0, .inr (11, fs)), (h1, .inr (1, gs))] U.heap ∧ va_K (dC, dI) vwCl [] U ∧ va_D (fun _ => True) [(h0, .inr (11, fs)), (h1, .inr (1, gs))])) (va_Qi (fun (r : Int32) (_ : Unit) => r = (-1)) (fun _ _ => True) (va_A [(h0, .inr (11, fs)), (h1, .inr (1, gs))] sz)) 0 0 (va_A [(h0, .inr (11, fs)), (h1, .inr (1, gs))] sz) := by
  refine Met.ofW (cc := cX11_law) (maxL := 10) (ret := (some .int)) (by decide) rfl ?_
  intro p e s m args below meth c s₁ B hml hv
  obtain ⟨rfl, hsz, hP, hK, hD0⟩ := hv
  have hx := B.exec
  have hb := B.bytes
  have hr := B.returns
  have hts := atoms_spec (ws := u_c_X11_law) B.pre
  have hown : s.vm.findClass RX11 = some m.cls := findClass_of_methodNamed B.named
  have hlocks := B.notSynchronized
  have hiX11 := iX11_c_X11_law
  have hiX1 := iX1_c_X11_law
  subst hsz
  have hD := hD0.self (sz := s.heap.size)
  generalize hAe : va_A [(h0, .inr (11, fs)), (h1, .inr (1, gs))] s.heap.size = A at hD ⊢
  have hA : ∀ q : Nat, s.heap.size ≤ q → A q := fun q h => by rw [← hAe]; exact Or.inr h
  have hS : va_S A s.heap s.heap [] := va_S.rf
  obtain ⟨H, hH⟩ : ∃ H : Heap, H = s.heap := ⟨_, rfl⟩
  have hP : va_P (dC, dI) vwCl [(h0, .inr (11, fs)), (h1, .inr (1, gs))] H := by rw [hH]; exact hP
  have hS : va_S A s.heap H [] := by rw [hH]; exact hS
  have hl := lv_entry ([.ref h0, .int p0, .int p1, .int p2, .int p3, .int p4]) (n := 10) (Nat.le_of_ble_eq_true rfl)
  rw [lg_entry_eq]
  generalize (lg_sl ([.ref h0, .int p0, .int p1, .int p2, .int p3, .int p4]) ++ List.replicate (10 - (lg_sl ([.ref h0, .int p0, .int p1, .int p2, .int p3, .int p4])).length) Slot.unset).toArray = ls at hl ⊢
  have hl : lv_has ls 10 [(0, .ref h0), (1, .int p0), (2, .int p1), (3, .int p2), (4, .int p3), (5, .int p4)] := hl
  suffices h9 : W p l e (headSpec u_c_X11_law _).room s m _ below meth c H [] 0 0 _ (F0 m 0 ls []) by rw [hH] at h9; exact h9
  refine lv_aload_n hx hb dX11_law_0 rfl (lv_at hl 0 rfl) ?_
  refine va_get (D := (dC, dI)) (ci := 11) (v := .ref h1) (C := RX11) (T := TX11) (N := 16) hx hb hts hiX11 hown hK hP 0 rfl rfl 5 (by decide) (hts (.fieldLink RX11 39 "CakePapers" "desk" "LCakePapers$Desk;") (by decide +kernel)) (fun _ h9 => h9) e_fs_5 dX11_law_1 ?_
  refine lv_iload_n hx hb dX11_law_4 rfl (lv_at hl 2 rfl) ?_
  have hPc := hP.sub (ws' := [(h1, .inr (1, gs))]) [1] rfl
  have hDc := hD.sub (ws' := [(h1, .inr (1, gs))]) [1] (by decide) rfl
  have hKc := hK.sub (tys' := []) [] rfl
  have hFc := va_free (wc := [(h1, .inr (1, gs))]) hD hS hA [1] rfl
  refine va_callq (va_runV (As := [.int p1]) (rest := []) ⟨hx, hb, hml, hown, hts⟩ (c_X1_get l dC dI H.size h1 gs hn_gs e_gs_2 p1) (cwV 1 hts g_c_X11_law_c_X1_get_0 rfl rfl rfl (by decide +kernel) ⟨Nat.le_of_ble_eq_true rfl, Nat.le_of_ble_eq_true rfl⟩) ⟨fun a U g mk q => by obtain ⟨q0, q1, qP, qK, qD⟩ := q; exact ⟨q0, q1, qP, va_K.moved (u := U) (U := U.calling g mk a) (Vm.Alike.refl U.vm) qK, qD⟩, va_recv hKc hPc (ci := 1) (q0 := 0) rfl rfl, fun U hU hW => ⟨rfl, by rw [hU], by rw [hU]; exact hPc, va_K.moved hW.alike hKc, hDc.weaken (fun _ _ _ _ => trivial)⟩⟩ rfl rfl hl.1 rfl (lv_room (Nat.le_of_ble_eq_true rfl)) dX11_law_5 ⟨Nat.le_of_ble_eq_true rfl, Nat.le_of_ble_eq_true rfl⟩) hS (fun q _ h => hFc q h) hFc (fun r_1 u t H1 locs ht hvm hw hB hz1 hk1 hS => ?_)
  obtain ⟨hP1, hD1⟩ := hB
  rw [ht] at hP1
  obtain ⟨hP, hD⟩ := va_join (wr := [(h0, .inr (11, fs))]) (w1 := [(h1, .inr (1, gs))]) hP hD [1] [0] rfl rfl (by decide) (by decide) hk1 hFc hP1 hD1
  generalize H1 = H at hP hS ⊢
  have hP : va_P (dC, dI) vwCl [(h0, .inr (11, fs)), (h1, .inr (1, gs))] H := hP
  have hD : va_D A [(h0, .inr (11, fs)), (h1, .inr (1, gs))] := hD
  refine W.widen (k := 0) (n := 0) (Nat.le_of_ble_eq_true rfl) (Nat.le_of_ble_eq_true rfl) ?_
  have e_1 : r_1 = none := hw
  subst e_1
  refine W.eq (g2 := F0 m 8 ls [.null]) rfl ?_
  refine lv_astoreN (lv' := [(6, .null), (0, .ref h0), (1, .int p0), (2, .int p1), (3, .int p2), (4, .int p3), (5, .int p4)]) hx hb dX11_law_8 hl (by decide) rfl (fun ls hl => ?_)
  refine lv_aload_n hx hb dX11_law_10 rfl (lv_at hl 1 rfl) ?_
  refine va_get (D := (dC, dI)) (ci := 11) (v := .ref h1) (C := RX11) (T := TX11) (N := 16) hx hb hts hiX11 hown hK hP 0 rfl rfl 5 (by decide) (hts (.fieldLink RX11 39 "CakePapers" "desk" "LCakePapers$Desk;") (by decide +kernel)) (fun _ h9 => h9) e_fs_5 dX11_law_11 ?_
  refine lv_iload_n hx hb dX11_law_14 rfl (lv_at hl 4 rfl) ?_
  have hPc := hP.sub (ws' := [(h1, .inr (1, gs))]) [1] rfl
  have hDc := hD.sub (ws' := [(h1, .inr (1, gs))]) [1] (by decide) rfl
  have hKc := hK.sub (tys' := []) [] rfl
  have hFc := va_free (wc := [(h1, .inr (1, gs))]) hD hS hA [1] rfl
  refine va_callq (va_runV (As := [.int p2]) (rest := []) ⟨hx, hb, hml, hown, hts⟩ (c_X1_get l dC dI H.size h1 gs hn_gs e_gs_2 p2) (cwV 1 hts g_c_X11_law_c_X1_get_0 rfl rfl rfl (by decide +kernel) ⟨Nat.le_of_ble_eq_true rfl, Nat.le_of_ble_eq_true rfl⟩) ⟨fun a U g mk q => by obtain ⟨q0, q1, qP, qK, qD⟩ := q; exact ⟨q0, q1, qP, va_K.moved (u := U) (U := U.calling g mk a) (Vm.Alike.refl U.vm) qK, qD⟩, va_recv hKc hPc (ci := 1) (q0 := 0) rfl rfl, fun U hU hW => ⟨rfl, by rw [hU], by rw [hU]; exact hPc, va_K.moved hW.alike hKc, hDc.weaken (fun _ _ _ _ => trivial)⟩⟩ rfl rfl hl.1 rfl (lv_room (Nat.le_of_ble_eq_true rfl)) dX11_law_15 ⟨Nat.le_of_ble_eq_true rfl, Nat.le_of_ble_eq_true rfl⟩) hS (fun q _ h => hFc q h) hFc (fun r_2 u t H1 locs ht hvm hw hB hz1 hk1 hS => ?_)
  obtain ⟨hP1, hD1⟩ := hB
  rw [ht] at hP1
  obtain ⟨hP, hD⟩ := va_join (wr := [(h0, .inr (11, fs))]) (w1 := [(h1, .inr (1, gs))]) hP hD [1] [0] rfl rfl (by decide) (by decide) hk1 hFc hP1 hD1
  generalize H1 = H at hP hS ⊢
  have hP : va_P (dC, dI) vwCl [(h0, .inr (11, fs)), (h1, .inr (1, gs))] H := hP
  have hD : va_D A [(h0, .inr (11, fs)), (h1, .inr (1, gs))] := hD
  refine W.widen (k := 0) (n := 0) (Nat.le_of_ble_eq_true rfl) (Nat.le_of_ble_eq_true rfl) ?_
  have e_2 : r_2 = none := hw
  subst e_2
  refine W.eq (g2 := F0 m 18 ls [.null]) rfl ?_
  refine lv_astoreN (lv' := [(7, .null), (6, .null), (0, .ref h0), (1, .int p0), (2, .int p1), (3, .int p2), (4, .int p3), (5, .int p4)]) hx hb dX11_law_18 hl (by decide) rfl (fun ls hl => ?_)
  refine lv_iload_n hx hb dX11_law_20 rfl (lv_at hl 3 rfl) ?_
  refine lv_if_lt (tgt := 39) hx hb dX11_law_21 (by decide) (fun c_3 => ?_) (fun c_3 => ?_)
  · refine lv_iconst (v := (-1)) hx hb dX11_law_39 (by decide) ?_
    refine W.widen (k := 0) (n := 0) (Nat.le_of_ble_eq_true rfl) (Nat.le_of_ble_eq_true rfl) ?_
    exact W.iret (v := (-1)) hx hb hr (fun t ht hW => ⟨⟨(-1), (), rfl, rfl, trivial⟩, hS.F ht⟩) hS.2.2 dX11_law_40
  · refine lv_iload_n hx hb dX11_law_24 rfl (lv_at hl 3 rfl) ?_
    refine lv_iconst (v := 2) hx hb dX11_law_25 (by decide) ?_
    refine lv_icmp_gt (tgt := 39) hx hb dX11_law_26 (by decide) (fun c_4 => ?_) (fun c_4 => ?_)
    · refine lv_iconst (v := (-1)) hx hb dX11_law_39 (by decide) ?_
      refine W.widen (k := 0) (n := 0) (Nat.le_of_ble_eq_true rfl) (Nat.le_of_ble_eq_true rfl) ?_
      exact W.iret (v := (-1)) hx hb hr (fun t ht hW => ⟨⟨(-1), (), rfl, rfl, trivial⟩, hS.F ht⟩) hS.2.2 dX11_law_40
    · refine lv_aloadN hx hb dX11_law_29 (lv_at hl 1 rfl) ?_
      refine lv_ifnullN (tgt := 39) hx hb dX11_law_31 (by decide) ?_
      refine lv_iconst (v := (-1)) hx hb dX11_law_39 (by decide) ?_
      refine W.widen (k := 0) (n := 0) (Nat.le_of_ble_eq_true rfl) (Nat.le_of_ble_eq_true rfl) ?_
      exact W.iret (v := (-1)) hx hb hr (fun t ht hW => ⟨⟨(-1), (), rfl, rfl, trivial⟩, hS.F ht⟩) hS.2.2 dX11_law_40
def u_c_X11_three : List Cond := .code yX11_three cX11_three 10 (some .int) :: ([.fieldLink RX11 39 "CakePapers" "desk" "LCakePapers$Desk;", .code yX1_get cX1_get 2 (some (.object "CakePapers$Paper")), .fieldLink RX1 24 "CakePapers$Desk" "count" "I", .methodLink RX11 148 yX1_get, .instanceMethod yX1_get, .selects RX1 yX1_get yX1_get, .initialized RX1] ++ wsX110 ++ wsX10)
theorem iX11_c_X11_three : ∀ w ∈ wsX110, w ∈ u_c_X11_three := fun w h => List.mem_cons_of_mem _ (List.mem_append_left _ (List.mem_append_right _ h))
theorem iX1_c_X11_three : ∀ w ∈ wsX10, w ∈ u_c_X11_three := fun w h => List.mem_cons_of_mem _ (List.mem_append_right _ h)
set_option maxRecDepth 20000 in
theorem g_c_X11_three_c_X1_get_0 : GoodIn u_c_X11_three (wsV RX11 148 RX1 yX1_get u_c_X1_get) := goodIn_app (goodIn_of _ (by decide +kernel)) (goodIn_ca (goodIn_of (.code yX1_get cX1_get 2 (some (.object "CakePapers$Paper")) :: [.fieldLink RX1 24 "CakePapers$Desk" "count" "I"]) (by decide +kernel)) (goodIn_sub iX1_c_X11_three zgX1))
set_option maxHeartbeats 1000000 in
set_option maxRecDepth 100000 in
theorem c_X11_three (l : Launch) (dC : Nat → ClassId) (dI : Nat → Nat → Nat) (sz : Nat) (h0 h1 : Nat) (fs : List Value) (hn_fs : fs.length = 16) (e_fs_5 : fs[5]? = some (.ref h1)) (gs : List Value) (hn_gs : gs.length = 3) (e_gs_2 : gs[2]? = some (.int 0)) (p0 : Int32) (p1 : Int32) (p2 : Int32) (p3 : Int32) (p4 : Int32) : Met l yX11_three u_c_X11_three ({ frames := 1, cells := 0, slots := 0, locals := 21 }) (va_Pc [.ref h0, .int p0, .int p1, .int p2, .int p3, .int p4] (fun U => U.heap.size = sz ∧ va_P (dC, dI) vwCl [(h0, .inr (11, fs)), (h1, .inr (1, gs))] U.heap ∧ va_K (dC, dI) vwCl [] U ∧ va_D (fun _ => True) [(h0, .inr (11, fs)), (h1, .inr (1, gs))])) (va_Qi (fun (r : Int32) (_ : Unit) => r = (-1)) (fun _ _ => True) (va_A [(h0, .inr (11, fs)), (h1, .inr (1, gs))] sz)) 0 0 (va_A [(h0, .inr (11, fs)), (h1, .inr (1, gs))] sz) := by
  refine Met.ofW (cc := cX11_three) (maxL := 10) (ret := (some .int)) (by decide) rfl ?_
  intro p e s m args below meth c s₁ B hml hv
  obtain ⟨rfl, hsz, hP, hK, hD0⟩ := hv
  have hx := B.exec
  have hb := B.bytes
  have hr := B.returns
  have hts := atoms_spec (ws := u_c_X11_three) B.pre
  have hown : s.vm.findClass RX11 = some m.cls := findClass_of_methodNamed B.named
  have hlocks := B.notSynchronized
  have hiX11 := iX11_c_X11_three
  have hiX1 := iX1_c_X11_three
  subst hsz
  have hD := hD0.self (sz := s.heap.size)
  generalize hAe : va_A [(h0, .inr (11, fs)), (h1, .inr (1, gs))] s.heap.size = A at hD ⊢
  have hA : ∀ q : Nat, s.heap.size ≤ q → A q := fun q h => by rw [← hAe]; exact Or.inr h
  have hS : va_S A s.heap s.heap [] := va_S.rf
  obtain ⟨H, hH⟩ : ∃ H : Heap, H = s.heap := ⟨_, rfl⟩
  have hP : va_P (dC, dI) vwCl [(h0, .inr (11, fs)), (h1, .inr (1, gs))] H := by rw [hH]; exact hP
  have hS : va_S A s.heap H [] := by rw [hH]; exact hS
  have hl := lv_entry ([.ref h0, .int p0, .int p1, .int p2, .int p3, .int p4]) (n := 10) (Nat.le_of_ble_eq_true rfl)
  rw [lg_entry_eq]
  generalize (lg_sl ([.ref h0, .int p0, .int p1, .int p2, .int p3, .int p4]) ++ List.replicate (10 - (lg_sl ([.ref h0, .int p0, .int p1, .int p2, .int p3, .int p4])).length) Slot.unset).toArray = ls at hl ⊢
  have hl : lv_has ls 10 [(0, .ref h0), (1, .int p0), (2, .int p1), (3, .int p2), (4, .int p3), (5, .int p4)] := hl
  suffices h9 : W p l e (headSpec u_c_X11_three _).room s m _ below meth c H [] 0 0 _ (F0 m 0 ls []) by rw [hH] at h9; exact h9
  refine lv_aload_n hx hb dX11_three_0 rfl (lv_at hl 0 rfl) ?_
  refine va_get (D := (dC, dI)) (ci := 11) (v := .ref h1) (C := RX11) (T := TX11) (N := 16) hx hb hts hiX11 hown hK hP 0 rfl rfl 5 (by decide) (hts (.fieldLink RX11 39 "CakePapers" "desk" "LCakePapers$Desk;") (by decide +kernel)) (fun _ h9 => h9) e_fs_5 dX11_three_1 ?_
  refine lv_iload_n hx hb dX11_three_4 rfl (lv_at hl 1 rfl) ?_
  have hPc := hP.sub (ws' := [(h1, .inr (1, gs))]) [1] rfl
  have hDc := hD.sub (ws' := [(h1, .inr (1, gs))]) [1] (by decide) rfl
  have hKc := hK.sub (tys' := []) [] rfl
  have hFc := va_free (wc := [(h1, .inr (1, gs))]) hD hS hA [1] rfl
  refine va_callq (va_runV (As := [.int p0]) (rest := []) ⟨hx, hb, hml, hown, hts⟩ (c_X1_get l dC dI H.size h1 gs hn_gs e_gs_2 p0) (cwV 1 hts g_c_X11_three_c_X1_get_0 rfl rfl rfl (by decide +kernel) ⟨Nat.le_of_ble_eq_true rfl, Nat.le_of_ble_eq_true rfl⟩) ⟨fun a U g mk q => by obtain ⟨q0, q1, qP, qK, qD⟩ := q; exact ⟨q0, q1, qP, va_K.moved (u := U) (U := U.calling g mk a) (Vm.Alike.refl U.vm) qK, qD⟩, va_recv hKc hPc (ci := 1) (q0 := 0) rfl rfl, fun U hU hW => ⟨rfl, by rw [hU], by rw [hU]; exact hPc, va_K.moved hW.alike hKc, hDc.weaken (fun _ _ _ _ => trivial)⟩⟩ rfl rfl hl.1 rfl (lv_room (Nat.le_of_ble_eq_true rfl)) dX11_three_5 ⟨Nat.le_of_ble_eq_true rfl, Nat.le_of_ble_eq_true rfl⟩) hS (fun q _ h => hFc q h) hFc (fun r_1 u t H1 locs ht hvm hw hB hz1 hk1 hS => ?_)
  obtain ⟨hP1, hD1⟩ := hB
  rw [ht] at hP1
  obtain ⟨hP, hD⟩ := va_join (wr := [(h0, .inr (11, fs))]) (w1 := [(h1, .inr (1, gs))]) hP hD [1] [0] rfl rfl (by decide) (by decide) hk1 hFc hP1 hD1
  generalize H1 = H at hP hS ⊢
  have hP : va_P (dC, dI) vwCl [(h0, .inr (11, fs)), (h1, .inr (1, gs))] H := hP
  have hD : va_D A [(h0, .inr (11, fs)), (h1, .inr (1, gs))] := hD
  refine W.widen (k := 0) (n := 0) (Nat.le_of_ble_eq_true rfl) (Nat.le_of_ble_eq_true rfl) ?_
  have e_1 : r_1 = none := hw
  subst e_1
  refine W.eq (g2 := F0 m 8 ls [.null]) rfl ?_
  refine lv_astoreN (lv' := [(6, .null), (0, .ref h0), (1, .int p0), (2, .int p1), (3, .int p2), (4, .int p3), (5, .int p4)]) hx hb dX11_three_8 hl (by decide) rfl (fun ls hl => ?_)
  refine lv_aload_n hx hb dX11_three_10 rfl (lv_at hl 1 rfl) ?_
  refine va_get (D := (dC, dI)) (ci := 11) (v := .ref h1) (C := RX11) (T := TX11) (N := 16) hx hb hts hiX11 hown hK hP 0 rfl rfl 5 (by decide) (hts (.fieldLink RX11 39 "CakePapers" "desk" "LCakePapers$Desk;") (by decide +kernel)) (fun _ h9 => h9) e_fs_5 dX11_three_11 ?_
  refine lv_iload_n hx hb dX11_three_14 rfl (lv_at hl 3 rfl) ?_
  have hPc := hP.sub (ws' := [(h1, .inr (1, gs))]) [1] rfl
  have hDc := hD.sub (ws' := [(h1, .inr (1, gs))]) [1] (by decide) rfl
  have hKc := hK.sub (tys' := []) [] rfl
  have hFc := va_free (wc := [(h1, .inr (1, gs))]) hD hS hA [1] rfl
  refine va_callq (va_runV (As := [.int p1]) (rest := []) ⟨hx, hb, hml, hown, hts⟩ (c_X1_get l dC dI H.size h1 gs hn_gs e_gs_2 p1) (cwV 1 hts g_c_X11_three_c_X1_get_0 rfl rfl rfl (by decide +kernel) ⟨Nat.le_of_ble_eq_true rfl, Nat.le_of_ble_eq_true rfl⟩) ⟨fun a U g mk q => by obtain ⟨q0, q1, qP, qK, qD⟩ := q; exact ⟨q0, q1, qP, va_K.moved (u := U) (U := U.calling g mk a) (Vm.Alike.refl U.vm) qK, qD⟩, va_recv hKc hPc (ci := 1) (q0 := 0) rfl rfl, fun U hU hW => ⟨rfl, by rw [hU], by rw [hU]; exact hPc, va_K.moved hW.alike hKc, hDc.weaken (fun _ _ _ _ => trivial)⟩⟩ rfl rfl hl.1 rfl (lv_room (Nat.le_of_ble_eq_true rfl)) dX11_three_15 ⟨Nat.le_of_ble_eq_true rfl, Nat.le_of_ble_eq_true rfl⟩) hS (fun q _ h => hFc q h) hFc (fun r_2 u t H1 locs ht hvm hw hB hz1 hk1 hS => ?_)
  obtain ⟨hP1, hD1⟩ := hB
  rw [ht] at hP1
  obtain ⟨hP, hD⟩ := va_join (wr := [(h0, .inr (11, fs))]) (w1 := [(h1, .inr (1, gs))]) hP hD [1] [0] rfl rfl (by decide) (by decide) hk1 hFc hP1 hD1
  generalize H1 = H at hP hS ⊢
  have hP : va_P (dC, dI) vwCl [(h0, .inr (11, fs)), (h1, .inr (1, gs))] H := hP
  have hD : va_D A [(h0, .inr (11, fs)), (h1, .inr (1, gs))] := hD
  refine W.widen (k := 0) (n := 0) (Nat.le_of_ble_eq_true rfl) (Nat.le_of_ble_eq_true rfl) ?_
  have e_2 : r_2 = none := hw
  subst e_2
  refine W.eq (g2 := F0 m 18 ls [.null]) rfl ?_
  refine lv_astoreN (lv' := [(7, .null), (6, .null), (0, .ref h0), (1, .int p0), (2, .int p1), (3, .int p2), (4, .int p3), (5, .int p4)]) hx hb dX11_three_18 hl (by decide) rfl (fun ls hl => ?_)
  refine lv_aload_n hx hb dX11_three_20 rfl (lv_at hl 2 rfl) ?_
  refine va_get (D := (dC, dI)) (ci := 11) (v := .ref h1) (C := RX11) (T := TX11) (N := 16) hx hb hts hiX11 hown hK hP 0 rfl rfl 5 (by decide) (hts (.fieldLink RX11 39 "CakePapers" "desk" "LCakePapers$Desk;") (by decide +kernel)) (fun _ h9 => h9) e_fs_5 dX11_three_21 ?_
  refine lv_iload_n hx hb dX11_three_24 rfl (lv_at hl 5 rfl) ?_
  have hPc := hP.sub (ws' := [(h1, .inr (1, gs))]) [1] rfl
  have hDc := hD.sub (ws' := [(h1, .inr (1, gs))]) [1] (by decide) rfl
  have hKc := hK.sub (tys' := []) [] rfl
  have hFc := va_free (wc := [(h1, .inr (1, gs))]) hD hS hA [1] rfl
  refine va_callq (va_runV (As := [.int p2]) (rest := []) ⟨hx, hb, hml, hown, hts⟩ (c_X1_get l dC dI H.size h1 gs hn_gs e_gs_2 p2) (cwV 1 hts g_c_X11_three_c_X1_get_0 rfl rfl rfl (by decide +kernel) ⟨Nat.le_of_ble_eq_true rfl, Nat.le_of_ble_eq_true rfl⟩) ⟨fun a U g mk q => by obtain ⟨q0, q1, qP, qK, qD⟩ := q; exact ⟨q0, q1, qP, va_K.moved (u := U) (U := U.calling g mk a) (Vm.Alike.refl U.vm) qK, qD⟩, va_recv hKc hPc (ci := 1) (q0 := 0) rfl rfl, fun U hU hW => ⟨rfl, by rw [hU], by rw [hU]; exact hPc, va_K.moved hW.alike hKc, hDc.weaken (fun _ _ _ _ => trivial)⟩⟩ rfl rfl hl.1 rfl (lv_room (Nat.le_of_ble_eq_true rfl)) dX11_three_25 ⟨Nat.le_of_ble_eq_true rfl, Nat.le_of_ble_eq_true rfl⟩) hS (fun q _ h => hFc q h) hFc (fun r_3 u t H1 locs ht hvm hw hB hz1 hk1 hS => ?_)
  obtain ⟨hP1, hD1⟩ := hB
  rw [ht] at hP1
  obtain ⟨hP, hD⟩ := va_join (wr := [(h0, .inr (11, fs))]) (w1 := [(h1, .inr (1, gs))]) hP hD [1] [0] rfl rfl (by decide) (by decide) hk1 hFc hP1 hD1
  generalize H1 = H at hP hS ⊢
  have hP : va_P (dC, dI) vwCl [(h0, .inr (11, fs)), (h1, .inr (1, gs))] H := hP
  have hD : va_D A [(h0, .inr (11, fs)), (h1, .inr (1, gs))] := hD
  refine W.widen (k := 0) (n := 0) (Nat.le_of_ble_eq_true rfl) (Nat.le_of_ble_eq_true rfl) ?_
  have e_3 : r_3 = none := hw
  subst e_3
  refine W.eq (g2 := F0 m 28 ls [.null]) rfl ?_
  refine lv_astoreN (lv' := [(8, .null), (7, .null), (6, .null), (0, .ref h0), (1, .int p0), (2, .int p1), (3, .int p2), (4, .int p3), (5, .int p4)]) hx hb dX11_three_28 hl (by decide) rfl (fun ls hl => ?_)
  refine lv_aload_n hx hb dX11_three_30 rfl (lv_at hl 3 rfl) ?_
  refine va_get (D := (dC, dI)) (ci := 11) (v := .ref h1) (C := RX11) (T := TX11) (N := 16) hx hb hts hiX11 hown hK hP 0 rfl rfl 5 (by decide) (hts (.fieldLink RX11 39 "CakePapers" "desk" "LCakePapers$Desk;") (by decide +kernel)) (fun _ h9 => h9) e_fs_5 dX11_three_31 ?_
  refine lv_iload hx hb dX11_three_34 (lv_at hl 7 rfl) ?_
  have hPc := hP.sub (ws' := [(h1, .inr (1, gs))]) [1] rfl
  have hDc := hD.sub (ws' := [(h1, .inr (1, gs))]) [1] (by decide) rfl
  have hKc := hK.sub (tys' := []) [] rfl
  have hFc := va_free (wc := [(h1, .inr (1, gs))]) hD hS hA [1] rfl
  refine va_callq (va_runV (As := [.int p3]) (rest := []) ⟨hx, hb, hml, hown, hts⟩ (c_X1_get l dC dI H.size h1 gs hn_gs e_gs_2 p3) (cwV 1 hts g_c_X11_three_c_X1_get_0 rfl rfl rfl (by decide +kernel) ⟨Nat.le_of_ble_eq_true rfl, Nat.le_of_ble_eq_true rfl⟩) ⟨fun a U g mk q => by obtain ⟨q0, q1, qP, qK, qD⟩ := q; exact ⟨q0, q1, qP, va_K.moved (u := U) (U := U.calling g mk a) (Vm.Alike.refl U.vm) qK, qD⟩, va_recv hKc hPc (ci := 1) (q0 := 0) rfl rfl, fun U hU hW => ⟨rfl, by rw [hU], by rw [hU]; exact hPc, va_K.moved hW.alike hKc, hDc.weaken (fun _ _ _ _ => trivial)⟩⟩ rfl rfl hl.1 rfl (lv_room (Nat.le_of_ble_eq_true rfl)) dX11_three_36 ⟨Nat.le_of_ble_eq_true rfl, Nat.le_of_ble_eq_true rfl⟩) hS (fun q _ h => hFc q h) hFc (fun r_4 u t H1 locs ht hvm hw hB hz1 hk1 hS => ?_)
  obtain ⟨hP1, hD1⟩ := hB
  rw [ht] at hP1
  obtain ⟨hP, hD⟩ := va_join (wr := [(h0, .inr (11, fs))]) (w1 := [(h1, .inr (1, gs))]) hP hD [1] [0] rfl rfl (by decide) (by decide) hk1 hFc hP1 hD1
  generalize H1 = H at hP hS ⊢
  have hP : va_P (dC, dI) vwCl [(h0, .inr (11, fs)), (h1, .inr (1, gs))] H := hP
  have hD : va_D A [(h0, .inr (11, fs)), (h1, .inr (1, gs))] := hD
  refine W.widen (k := 0) (n := 0) (Nat.le_of_ble_eq_true rfl) (Nat.le_of_ble_eq_true rfl) ?_
  have e_4 : r_4 = none := hw
  subst e_4
  refine W.eq (g2 := F0 m 39 ls [.null]) rfl ?_
  refine lv_astoreN (lv' := [(9, .null), (8, .null), (7, .null), (6, .null), (0, .ref h0), (1, .int p0), (2, .int p1), (3, .int p2), (4, .int p3), (5, .int p4)]) hx hb dX11_three_39 hl (by decide) rfl (fun ls hl => ?_)
  refine lv_aloadN hx hb dX11_three_41 (lv_at hl 3 rfl) ?_
  refine lv_ifnullN (tgt := 61) hx hb dX11_three_43 (by decide) ?_
  refine lv_iconst (v := (-1)) hx hb dX11_three_61 (by decide) ?_
  refine W.widen (k := 0) (n := 0) (Nat.le_of_ble_eq_true rfl) (Nat.le_of_ble_eq_true rfl) ?_
  exact W.iret (v := (-1)) hx hb hr (fun t ht hW => ⟨⟨(-1), (), rfl, rfl, trivial⟩, hS.F ht⟩) hS.2.2 dX11_three_62
def u_c_X11_begun : List Cond := .code yX11_begun cX11_begun 7 (some .int) :: ([.fieldLink RX11 39 "CakePapers" "desk" "LCakePapers$Desk;", .code yX1_get cX1_get 2 (some (.object "CakePapers$Paper")), .fieldLink RX1 24 "CakePapers$Desk" "count" "I", .methodLink RX11 148 yX1_get, .instanceMethod yX1_get, .selects RX1 yX1_get yX1_get, .initialized RX1] ++ wsX110 ++ wsX10)
theorem iX11_c_X11_begun : ∀ w ∈ wsX110, w ∈ u_c_X11_begun := fun w h => List.mem_cons_of_mem _ (List.mem_append_left _ (List.mem_append_right _ h))
theorem iX1_c_X11_begun : ∀ w ∈ wsX10, w ∈ u_c_X11_begun := fun w h => List.mem_cons_of_mem _ (List.mem_append_right _ h)
set_option maxRecDepth 20000 in
theorem g_c_X11_begun_c_X1_get_0 : GoodIn u_c_X11_begun (wsV RX11 148 RX1 yX1_get u_c_X1_get) := goodIn_app (goodIn_of _ (by decide +kernel)) (goodIn_ca (goodIn_of (.code yX1_get cX1_get 2 (some (.object "CakePapers$Paper")) :: [.fieldLink RX1 24 "CakePapers$Desk" "count" "I"]) (by decide +kernel)) (goodIn_sub iX1_c_X11_begun zgX1))
set_option maxHeartbeats 1000000 in
set_option maxRecDepth 100000 in
theorem c_X11_begun (l : Launch) (dC : Nat → ClassId) (dI : Nat → Nat → Nat) (sz : Nat) (h0 h1 : Nat) (fs : List Value) (hn_fs : fs.length = 16) (e_fs_5 : fs[5]? = some (.ref h1)) (gs : List Value) (hn_gs : gs.length = 3) (e_gs_2 : gs[2]? = some (.int 0)) (p0 : Int32) (p1 : Int32) (p2 : Int32) (p3 : Int32) : Met l yX11_begun u_c_X11_begun ({ frames := 1, cells := 0, slots := 0, locals := 21 }) (va_Pc [.ref h0, .int p0, .int p1, .int p2, .int p3] (fun U => U.heap.size = sz ∧ va_P (dC, dI) vwCl [(h0, .inr (11, fs)), (h1, .inr (1, gs))] U.heap ∧ va_K (dC, dI) vwCl [] U ∧ va_D (fun _ => True) [(h0, .inr (11, fs)), (h1, .inr (1, gs))])) (va_Qi (fun (r : Int32) (_ : Unit) => r = (-1)) (fun _ _ => True) (va_A [(h0, .inr (11, fs)), (h1, .inr (1, gs))] sz)) 0 0 (va_A [(h0, .inr (11, fs)), (h1, .inr (1, gs))] sz) := by
  refine Met.ofW (cc := cX11_begun) (maxL := 7) (ret := (some .int)) (by decide) rfl ?_
  intro p e s m args below meth c s₁ B hml hv
  obtain ⟨rfl, hsz, hP, hK, hD0⟩ := hv
  have hx := B.exec
  have hb := B.bytes
  have hr := B.returns
  have hts := atoms_spec (ws := u_c_X11_begun) B.pre
  have hown : s.vm.findClass RX11 = some m.cls := findClass_of_methodNamed B.named
  have hlocks := B.notSynchronized
  have hiX11 := iX11_c_X11_begun
  have hiX1 := iX1_c_X11_begun
  subst hsz
  have hD := hD0.self (sz := s.heap.size)
  generalize hAe : va_A [(h0, .inr (11, fs)), (h1, .inr (1, gs))] s.heap.size = A at hD ⊢
  have hA : ∀ q : Nat, s.heap.size ≤ q → A q := fun q h => by rw [← hAe]; exact Or.inr h
  have hS : va_S A s.heap s.heap [] := va_S.rf
  obtain ⟨H, hH⟩ : ∃ H : Heap, H = s.heap := ⟨_, rfl⟩
  have hP : va_P (dC, dI) vwCl [(h0, .inr (11, fs)), (h1, .inr (1, gs))] H := by rw [hH]; exact hP
  have hS : va_S A s.heap H [] := by rw [hH]; exact hS
  have hl := lv_entry ([.ref h0, .int p0, .int p1, .int p2, .int p3]) (n := 7) (Nat.le_of_ble_eq_true rfl)
  rw [lg_entry_eq]
  generalize (lg_sl ([.ref h0, .int p0, .int p1, .int p2, .int p3]) ++ List.replicate (7 - (lg_sl ([.ref h0, .int p0, .int p1, .int p2, .int p3])).length) Slot.unset).toArray = ls at hl ⊢
  have hl : lv_has ls 7 [(0, .ref h0), (1, .int p0), (2, .int p1), (3, .int p2), (4, .int p3)] := hl
  suffices h9 : W p l e (headSpec u_c_X11_begun _).room s m _ below meth c H [] 0 0 _ (F0 m 0 ls []) by rw [hH] at h9; exact h9
  refine lv_aload_n hx hb dX11_begun_0 rfl (lv_at hl 0 rfl) ?_
  refine va_get (D := (dC, dI)) (ci := 11) (v := .ref h1) (C := RX11) (T := TX11) (N := 16) hx hb hts hiX11 hown hK hP 0 rfl rfl 5 (by decide) (hts (.fieldLink RX11 39 "CakePapers" "desk" "LCakePapers$Desk;") (by decide +kernel)) (fun _ h9 => h9) e_fs_5 dX11_begun_1 ?_
  refine lv_iload_n hx hb dX11_begun_4 rfl (lv_at hl 1 rfl) ?_
  have hPc := hP.sub (ws' := [(h1, .inr (1, gs))]) [1] rfl
  have hDc := hD.sub (ws' := [(h1, .inr (1, gs))]) [1] (by decide) rfl
  have hKc := hK.sub (tys' := []) [] rfl
  have hFc := va_free (wc := [(h1, .inr (1, gs))]) hD hS hA [1] rfl
  refine va_callq (va_runV (As := [.int p0]) (rest := []) ⟨hx, hb, hml, hown, hts⟩ (c_X1_get l dC dI H.size h1 gs hn_gs e_gs_2 p0) (cwV 1 hts g_c_X11_begun_c_X1_get_0 rfl rfl rfl (by decide +kernel) ⟨Nat.le_of_ble_eq_true rfl, Nat.le_of_ble_eq_true rfl⟩) ⟨fun a U g mk q => by obtain ⟨q0, q1, qP, qK, qD⟩ := q; exact ⟨q0, q1, qP, va_K.moved (u := U) (U := U.calling g mk a) (Vm.Alike.refl U.vm) qK, qD⟩, va_recv hKc hPc (ci := 1) (q0 := 0) rfl rfl, fun U hU hW => ⟨rfl, by rw [hU], by rw [hU]; exact hPc, va_K.moved hW.alike hKc, hDc.weaken (fun _ _ _ _ => trivial)⟩⟩ rfl rfl hl.1 rfl (lv_room (Nat.le_of_ble_eq_true rfl)) dX11_begun_5 ⟨Nat.le_of_ble_eq_true rfl, Nat.le_of_ble_eq_true rfl⟩) hS (fun q _ h => hFc q h) hFc (fun r_1 u t H1 locs ht hvm hw hB hz1 hk1 hS => ?_)
  obtain ⟨hP1, hD1⟩ := hB
  rw [ht] at hP1
  obtain ⟨hP, hD⟩ := va_join (wr := [(h0, .inr (11, fs))]) (w1 := [(h1, .inr (1, gs))]) hP hD [1] [0] rfl rfl (by decide) (by decide) hk1 hFc hP1 hD1
  generalize H1 = H at hP hS ⊢
  have hP : va_P (dC, dI) vwCl [(h0, .inr (11, fs)), (h1, .inr (1, gs))] H := hP
  have hD : va_D A [(h0, .inr (11, fs)), (h1, .inr (1, gs))] := hD
  refine W.widen (k := 0) (n := 0) (Nat.le_of_ble_eq_true rfl) (Nat.le_of_ble_eq_true rfl) ?_
  have e_1 : r_1 = none := hw
  subst e_1
  refine W.eq (g2 := F0 m 8 ls [.null]) rfl ?_
  refine lv_astoreN (lv' := [(5, .null), (0, .ref h0), (1, .int p0), (2, .int p1), (3, .int p2), (4, .int p3)]) hx hb dX11_begun_8 hl (by decide) rfl (fun ls hl => ?_)
  refine lv_aload_n hx hb dX11_begun_10 rfl (lv_at hl 1 rfl) ?_
  refine va_get (D := (dC, dI)) (ci := 11) (v := .ref h1) (C := RX11) (T := TX11) (N := 16) hx hb hts hiX11 hown hK hP 0 rfl rfl 5 (by decide) (hts (.fieldLink RX11 39 "CakePapers" "desk" "LCakePapers$Desk;") (by decide +kernel)) (fun _ h9 => h9) e_fs_5 dX11_begun_11 ?_
  refine lv_iload_n hx hb dX11_begun_14 rfl (lv_at hl 4 rfl) ?_
  have hPc := hP.sub (ws' := [(h1, .inr (1, gs))]) [1] rfl
  have hDc := hD.sub (ws' := [(h1, .inr (1, gs))]) [1] (by decide) rfl
  have hKc := hK.sub (tys' := []) [] rfl
  have hFc := va_free (wc := [(h1, .inr (1, gs))]) hD hS hA [1] rfl
  refine va_callq (va_runV (As := [.int p2]) (rest := []) ⟨hx, hb, hml, hown, hts⟩ (c_X1_get l dC dI H.size h1 gs hn_gs e_gs_2 p2) (cwV 1 hts g_c_X11_begun_c_X1_get_0 rfl rfl rfl (by decide +kernel) ⟨Nat.le_of_ble_eq_true rfl, Nat.le_of_ble_eq_true rfl⟩) ⟨fun a U g mk q => by obtain ⟨q0, q1, qP, qK, qD⟩ := q; exact ⟨q0, q1, qP, va_K.moved (u := U) (U := U.calling g mk a) (Vm.Alike.refl U.vm) qK, qD⟩, va_recv hKc hPc (ci := 1) (q0 := 0) rfl rfl, fun U hU hW => ⟨rfl, by rw [hU], by rw [hU]; exact hPc, va_K.moved hW.alike hKc, hDc.weaken (fun _ _ _ _ => trivial)⟩⟩ rfl rfl hl.1 rfl (lv_room (Nat.le_of_ble_eq_true rfl)) dX11_begun_15 ⟨Nat.le_of_ble_eq_true rfl, Nat.le_of_ble_eq_true rfl⟩) hS (fun q _ h => hFc q h) hFc (fun r_2 u t H1 locs ht hvm hw hB hz1 hk1 hS => ?_)
  obtain ⟨hP1, hD1⟩ := hB
  rw [ht] at hP1
  obtain ⟨hP, hD⟩ := va_join (wr := [(h0, .inr (11, fs))]) (w1 := [(h1, .inr (1, gs))]) hP hD [1] [0] rfl rfl (by decide) (by decide) hk1 hFc hP1 hD1
  generalize H1 = H at hP hS ⊢
  have hP : va_P (dC, dI) vwCl [(h0, .inr (11, fs)), (h1, .inr (1, gs))] H := hP
  have hD : va_D A [(h0, .inr (11, fs)), (h1, .inr (1, gs))] := hD
  refine W.widen (k := 0) (n := 0) (Nat.le_of_ble_eq_true rfl) (Nat.le_of_ble_eq_true rfl) ?_
  have e_2 : r_2 = none := hw
  subst e_2
  refine W.eq (g2 := F0 m 18 ls [.null]) rfl ?_
  refine lv_astoreN (lv' := [(6, .null), (5, .null), (0, .ref h0), (1, .int p0), (2, .int p1), (3, .int p2), (4, .int p3)]) hx hb dX11_begun_18 hl (by decide) rfl (fun ls hl => ?_)
  refine lv_aloadN hx hb dX11_begun_20 (lv_at hl 1 rfl) ?_
  refine lv_ifnullN (tgt := 43) hx hb dX11_begun_22 (by decide) ?_
  refine lv_iconst (v := (-1)) hx hb dX11_begun_43 (by decide) ?_
  refine W.widen (k := 0) (n := 0) (Nat.le_of_ble_eq_true rfl) (Nat.le_of_ble_eq_true rfl) ?_
  exact W.iret (v := (-1)) hx hb hr (fun t ht hW => ⟨⟨(-1), (), rfl, rfl, trivial⟩, hS.F ht⟩) hS.2.2 dX11_begun_44
def u_c_X11_tear : List Cond := .code yX11_tear cX11_tear 2 (some .boolean) :: ([.fieldLink RX11 39 "CakePapers" "desk" "LCakePapers$Desk;", .code yX1_get cX1_get 2 (some (.object "CakePapers$Paper")), .fieldLink RX1 24 "CakePapers$Desk" "count" "I", .methodLink RX11 148 yX1_get, .instanceMethod yX1_get, .selects RX1 yX1_get yX1_get, .initialized RX1] ++ wsX110 ++ wsX10)
theorem iX11_c_X11_tear : ∀ w ∈ wsX110, w ∈ u_c_X11_tear := fun w h => List.mem_cons_of_mem _ (List.mem_append_left _ (List.mem_append_right _ h))
theorem iX1_c_X11_tear : ∀ w ∈ wsX10, w ∈ u_c_X11_tear := fun w h => List.mem_cons_of_mem _ (List.mem_append_right _ h)
set_option maxRecDepth 20000 in
theorem g_c_X11_tear_c_X1_get_0 : GoodIn u_c_X11_tear (wsV RX11 148 RX1 yX1_get u_c_X1_get) := goodIn_app (goodIn_of _ (by decide +kernel)) (goodIn_ca (goodIn_of (.code yX1_get cX1_get 2 (some (.object "CakePapers$Paper")) :: [.fieldLink RX1 24 "CakePapers$Desk" "count" "I"]) (by decide +kernel)) (goodIn_sub iX1_c_X11_tear zgX1))
set_option maxHeartbeats 1000000 in
set_option maxRecDepth 100000 in
theorem c_X11_tear (l : Launch) (dC : Nat → ClassId) (dI : Nat → Nat → Nat) (sz : Nat) (h0 h1 : Nat) (fs : List Value) (hn_fs : fs.length = 16) (e_fs_5 : fs[5]? = some (.ref h1)) (gs : List Value) (hn_gs : gs.length = 3) (e_gs_2 : gs[2]? = some (.int 0)) (p0 : Int32) : Met l yX11_tear u_c_X11_tear ({ frames := 1, cells := 0, slots := 0, locals := 21 }) (va_Pc [.ref h0, .int p0] (fun U => U.heap.size = sz ∧ va_P (dC, dI) vwCl [(h0, .inr (11, fs)), (h1, .inr (1, gs))] U.heap ∧ va_K (dC, dI) vwCl [] U ∧ va_D (fun _ => True) [(h0, .inr (11, fs)), (h1, .inr (1, gs))])) (va_Qi (fun (r : Int32) (_ : Unit) => r = 0) (fun _ _ => True) (va_A [(h0, .inr (11, fs)), (h1, .inr (1, gs))] sz)) 0 0 (va_A [(h0, .inr (11, fs)), (h1, .inr (1, gs))] sz) := by
  refine Met.ofW (cc := cX11_tear) (maxL := 2) (ret := (some .boolean)) (by decide) rfl ?_
  intro p e s m args below meth c s₁ B hml hv
  obtain ⟨rfl, hsz, hP, hK, hD0⟩ := hv
  have hx := B.exec
  have hb := B.bytes
  have hr := B.returns
  have hts := atoms_spec (ws := u_c_X11_tear) B.pre
  have hown : s.vm.findClass RX11 = some m.cls := findClass_of_methodNamed B.named
  have hlocks := B.notSynchronized
  have hiX11 := iX11_c_X11_tear
  have hiX1 := iX1_c_X11_tear
  subst hsz
  have hD := hD0.self (sz := s.heap.size)
  generalize hAe : va_A [(h0, .inr (11, fs)), (h1, .inr (1, gs))] s.heap.size = A at hD ⊢
  have hA : ∀ q : Nat, s.heap.size ≤ q → A q := fun q h => by rw [← hAe]; exact Or.inr h
  have hS : va_S A s.heap s.heap [] := va_S.rf
  obtain ⟨H, hH⟩ : ∃ H : Heap, H = s.heap := ⟨_, rfl⟩
  have hP : va_P (dC, dI) vwCl [(h0, .inr (11, fs)), (h1, .inr (1, gs))] H := by rw [hH]; exact hP
  have hS : va_S A s.heap H [] := by rw [hH]; exact hS
  have hl := lv_entry ([.ref h0, .int p0]) (n := 2) (Nat.le_of_ble_eq_true rfl)
  rw [lg_entry_eq]
  generalize (lg_sl ([.ref h0, .int p0]) ++ List.replicate (2 - (lg_sl ([.ref h0, .int p0])).length) Slot.unset).toArray = ls at hl ⊢
  have hl : lv_has ls 2 [(0, .ref h0), (1, .int p0)] := hl
  suffices h9 : W p l e (headSpec u_c_X11_tear _).room s m _ below meth c H [] 0 0 _ (F0 m 0 ls []) by rw [hH] at h9; exact h9
  refine lv_aload_n hx hb dX11_tear_0 rfl (lv_at hl 0 rfl) ?_
  refine va_get (D := (dC, dI)) (ci := 11) (v := .ref h1) (C := RX11) (T := TX11) (N := 16) hx hb hts hiX11 hown hK hP 0 rfl rfl 5 (by decide) (hts (.fieldLink RX11 39 "CakePapers" "desk" "LCakePapers$Desk;") (by decide +kernel)) (fun _ h9 => h9) e_fs_5 dX11_tear_1 ?_
  refine lv_iload_n hx hb dX11_tear_4 rfl (lv_at hl 1 rfl) ?_
  have hPc := hP.sub (ws' := [(h1, .inr (1, gs))]) [1] rfl
  have hDc := hD.sub (ws' := [(h1, .inr (1, gs))]) [1] (by decide) rfl
  have hKc := hK.sub (tys' := []) [] rfl
  have hFc := va_free (wc := [(h1, .inr (1, gs))]) hD hS hA [1] rfl
  refine va_callq (va_runV (As := [.int p0]) (rest := []) ⟨hx, hb, hml, hown, hts⟩ (c_X1_get l dC dI H.size h1 gs hn_gs e_gs_2 p0) (cwV 1 hts g_c_X11_tear_c_X1_get_0 rfl rfl rfl (by decide +kernel) ⟨Nat.le_of_ble_eq_true rfl, Nat.le_of_ble_eq_true rfl⟩) ⟨fun a U g mk q => by obtain ⟨q0, q1, qP, qK, qD⟩ := q; exact ⟨q0, q1, qP, va_K.moved (u := U) (U := U.calling g mk a) (Vm.Alike.refl U.vm) qK, qD⟩, va_recv hKc hPc (ci := 1) (q0 := 0) rfl rfl, fun U hU hW => ⟨rfl, by rw [hU], by rw [hU]; exact hPc, va_K.moved hW.alike hKc, hDc.weaken (fun _ _ _ _ => trivial)⟩⟩ rfl rfl hl.1 rfl (lv_room (Nat.le_of_ble_eq_true rfl)) dX11_tear_5 ⟨Nat.le_of_ble_eq_true rfl, Nat.le_of_ble_eq_true rfl⟩) hS (fun q _ h => hFc q h) hFc (fun r_1 u t H1 locs ht hvm hw hB hz1 hk1 hS => ?_)
  obtain ⟨hP1, hD1⟩ := hB
  rw [ht] at hP1
  obtain ⟨hP, hD⟩ := va_join (wr := [(h0, .inr (11, fs))]) (w1 := [(h1, .inr (1, gs))]) hP hD [1] [0] rfl rfl (by decide) (by decide) hk1 hFc hP1 hD1
  generalize H1 = H at hP hS ⊢
  have hP : va_P (dC, dI) vwCl [(h0, .inr (11, fs)), (h1, .inr (1, gs))] H := hP
  have hD : va_D A [(h0, .inr (11, fs)), (h1, .inr (1, gs))] := hD
  refine W.widen (k := 0) (n := 0) (Nat.le_of_ble_eq_true rfl) (Nat.le_of_ble_eq_true rfl) ?_
  have e_1 : r_1 = none := hw
  subst e_1
  refine W.eq (g2 := F0 m 8 ls [.null]) rfl ?_
  refine lv_ifnonnullN hx hb dX11_tear_8 ?_
  refine lv_iconst (v := 0) hx hb dX11_tear_11 (by decide) ?_
  refine W.widen (k := 0) (n := 0) (Nat.le_of_ble_eq_true rfl) (Nat.le_of_ble_eq_true rfl) ?_
  exact W.zret (v := 0) hx hb hr (rfl) (fun t ht hW => ⟨⟨0, (), rfl, rfl, trivial⟩, hS.F ht⟩) hS.2.2 dX11_tear_12
def u_c_X11_listChanges : List Cond := .code yX11_listChanges cX11_listChanges 6 (some .boolean) :: ([.fieldLink RX11 39 "CakePapers" "desk" "LCakePapers$Desk;", .code yX1_get cX1_get 2 (some (.object "CakePapers$Paper")), .fieldLink RX1 24 "CakePapers$Desk" "count" "I", .methodLink RX11 148 yX1_get, .instanceMethod yX1_get, .selects RX1 yX1_get yX1_get, .initialized RX1] ++ wsX110 ++ wsX10)
theorem iX11_c_X11_listChanges : ∀ w ∈ wsX110, w ∈ u_c_X11_listChanges := fun w h => List.mem_cons_of_mem _ (List.mem_append_left _ (List.mem_append_right _ h))
theorem iX1_c_X11_listChanges : ∀ w ∈ wsX10, w ∈ u_c_X11_listChanges := fun w h => List.mem_cons_of_mem _ (List.mem_append_right _ h)
set_option maxRecDepth 20000 in
theorem g_c_X11_listChanges_c_X1_get_0 : GoodIn u_c_X11_listChanges (wsV RX11 148 RX1 yX1_get u_c_X1_get) := goodIn_app (goodIn_of _ (by decide +kernel)) (goodIn_ca (goodIn_of (.code yX1_get cX1_get 2 (some (.object "CakePapers$Paper")) :: [.fieldLink RX1 24 "CakePapers$Desk" "count" "I"]) (by decide +kernel)) (goodIn_sub iX1_c_X11_listChanges zgX1))
set_option maxHeartbeats 1000000 in
set_option maxRecDepth 100000 in
theorem c_X11_listChanges (l : Launch) (dC : Nat → ClassId) (dI : Nat → Nat → Nat) (sz : Nat) (h0 h2 h1 : Nat) (fs : List Value) (hn_fs : fs.length = 16) (e_fs_5 : fs[5]? = some (.ref h1)) (gs : List Value) (hn_gs : gs.length = 3) (e_gs_2 : gs[2]? = some (.int 0)) (p0 : Int32) (p1 : Int32) : Met l yX11_listChanges u_c_X11_listChanges ({ frames := 1, cells := 0, slots := 0, locals := 21 }) (va_Pc [.ref h0, .ref h2, .int p0, .int p1] (fun U => U.heap.size = sz ∧ va_P (dC, dI) vwCl [(h0, .inr (11, fs)), (h1, .inr (1, gs))] U.heap ∧ va_K (dC, dI) vwCl [] U ∧ va_D (fun _ => True) [(h0, .inr (11, fs)), (h1, .inr (1, gs))])) (va_Qi (fun (r : Int32) (_ : Unit) => r = 0) (fun _ t => va_P (dC, dI) vwCl [(h0, .inr (11, fs)), (h1, .inr (1, gs))] t.heap ∧ va_D (va_A [(h0, .inr (11, fs)), (h1, .inr (1, gs))] sz) [(h0, .inr (11, fs)), (h1, .inr (1, gs))]) (va_A [(h0, .inr (11, fs)), (h1, .inr (1, gs))] sz)) 0 0 (va_A [(h0, .inr (11, fs)), (h1, .inr (1, gs))] sz) := by
  refine Met.ofW (cc := cX11_listChanges) (maxL := 6) (ret := (some .boolean)) (by decide) rfl ?_
  intro p e s m args below meth c s₁ B hml hv
  obtain ⟨rfl, hsz, hP, hK, hD0⟩ := hv
  have hx := B.exec
  have hb := B.bytes
  have hr := B.returns
  have hts := atoms_spec (ws := u_c_X11_listChanges) B.pre
  have hown : s.vm.findClass RX11 = some m.cls := findClass_of_methodNamed B.named
  have hlocks := B.notSynchronized
  have hiX11 := iX11_c_X11_listChanges
  have hiX1 := iX1_c_X11_listChanges
  subst hsz
  have hD := hD0.self (sz := s.heap.size)
  generalize hAe : va_A [(h0, .inr (11, fs)), (h1, .inr (1, gs))] s.heap.size = A at hD ⊢
  have hA : ∀ q : Nat, s.heap.size ≤ q → A q := fun q h => by rw [← hAe]; exact Or.inr h
  have hS : va_S A s.heap s.heap [] := va_S.rf
  obtain ⟨H, hH⟩ : ∃ H : Heap, H = s.heap := ⟨_, rfl⟩
  have hP : va_P (dC, dI) vwCl [(h0, .inr (11, fs)), (h1, .inr (1, gs))] H := by rw [hH]; exact hP
  have hS : va_S A s.heap H [] := by rw [hH]; exact hS
  have hl := lv_entry ([.ref h0, .ref h2, .int p0, .int p1]) (n := 6) (Nat.le_of_ble_eq_true rfl)
  rw [lg_entry_eq]
  generalize (lg_sl ([.ref h0, .ref h2, .int p0, .int p1]) ++ List.replicate (6 - (lg_sl ([.ref h0, .ref h2, .int p0, .int p1])).length) Slot.unset).toArray = ls at hl ⊢
  have hl : lv_has ls 6 [(0, .ref h0), (1, .ref h2), (2, .int p0), (3, .int p1)] := hl
  suffices h9 : W p l e (headSpec u_c_X11_listChanges _).room s m _ below meth c H [] 0 0 _ (F0 m 0 ls []) by rw [hH] at h9; exact h9
  refine lv_aload_n hx hb dX11_listChanges_0 rfl (lv_at hl 0 rfl) ?_
  refine va_get (D := (dC, dI)) (ci := 11) (v := .ref h1) (C := RX11) (T := TX11) (N := 16) hx hb hts hiX11 hown hK hP 0 rfl rfl 5 (by decide) (hts (.fieldLink RX11 39 "CakePapers" "desk" "LCakePapers$Desk;") (by decide +kernel)) (fun _ h9 => h9) e_fs_5 dX11_listChanges_1 ?_
  refine lv_iload_n hx hb dX11_listChanges_4 rfl (lv_at hl 2 rfl) ?_
  have hPc := hP.sub (ws' := [(h1, .inr (1, gs))]) [1] rfl
  have hDc := hD.sub (ws' := [(h1, .inr (1, gs))]) [1] (by decide) rfl
  have hKc := hK.sub (tys' := []) [] rfl
  have hFc := va_free (wc := [(h1, .inr (1, gs))]) hD hS hA [1] rfl
  refine va_callq (va_runV (As := [.int p0]) (rest := []) ⟨hx, hb, hml, hown, hts⟩ (c_X1_get l dC dI H.size h1 gs hn_gs e_gs_2 p0) (cwV 1 hts g_c_X11_listChanges_c_X1_get_0 rfl rfl rfl (by decide +kernel) ⟨Nat.le_of_ble_eq_true rfl, Nat.le_of_ble_eq_true rfl⟩) ⟨fun a U g mk q => by obtain ⟨q0, q1, qP, qK, qD⟩ := q; exact ⟨q0, q1, qP, va_K.moved (u := U) (U := U.calling g mk a) (Vm.Alike.refl U.vm) qK, qD⟩, va_recv hKc hPc (ci := 1) (q0 := 0) rfl rfl, fun U hU hW => ⟨rfl, by rw [hU], by rw [hU]; exact hPc, va_K.moved hW.alike hKc, hDc.weaken (fun _ _ _ _ => trivial)⟩⟩ rfl rfl hl.1 rfl (lv_room (Nat.le_of_ble_eq_true rfl)) dX11_listChanges_5 ⟨Nat.le_of_ble_eq_true rfl, Nat.le_of_ble_eq_true rfl⟩) hS (fun q _ h => hFc q h) hFc (fun r_1 u t H1 locs ht hvm hw hB hz1 hk1 hS => ?_)
  obtain ⟨hP1, hD1⟩ := hB
  rw [ht] at hP1
  obtain ⟨hP, hD⟩ := va_join (wr := [(h0, .inr (11, fs))]) (w1 := [(h1, .inr (1, gs))]) hP hD [1] [0] rfl rfl (by decide) (by decide) hk1 hFc hP1 hD1
  generalize H1 = H at hP hS ⊢
  have hP : va_P (dC, dI) vwCl [(h0, .inr (11, fs)), (h1, .inr (1, gs))] H := hP
  have hD : va_D A [(h0, .inr (11, fs)), (h1, .inr (1, gs))] := hD
  refine W.widen (k := 0) (n := 0) (Nat.le_of_ble_eq_true rfl) (Nat.le_of_ble_eq_true rfl) ?_
  have e_1 : r_1 = none := hw
  subst e_1
  refine W.eq (g2 := F0 m 8 ls [.null]) rfl ?_
  refine lv_astoreN (lv' := [(4, .null), (0, .ref h0), (1, .ref h2), (2, .int p0), (3, .int p1)]) hx hb dX11_listChanges_8 hl (by decide) rfl (fun ls hl => ?_)
  refine lv_aload_n hx hb dX11_listChanges_10 rfl (lv_at hl 1 rfl) ?_
  refine va_get (D := (dC, dI)) (ci := 11) (v := .ref h1) (C := RX11) (T := TX11) (N := 16) hx hb hts hiX11 hown hK hP 0 rfl rfl 5 (by decide) (hts (.fieldLink RX11 39 "CakePapers" "desk" "LCakePapers$Desk;") (by decide +kernel)) (fun _ h9 => h9) e_fs_5 dX11_listChanges_11 ?_
  refine lv_iload_n hx hb dX11_listChanges_14 rfl (lv_at hl 4 rfl) ?_
  have hPc := hP.sub (ws' := [(h1, .inr (1, gs))]) [1] rfl
  have hDc := hD.sub (ws' := [(h1, .inr (1, gs))]) [1] (by decide) rfl
  have hKc := hK.sub (tys' := []) [] rfl
  have hFc := va_free (wc := [(h1, .inr (1, gs))]) hD hS hA [1] rfl
  refine va_callq (va_runV (As := [.int p1]) (rest := []) ⟨hx, hb, hml, hown, hts⟩ (c_X1_get l dC dI H.size h1 gs hn_gs e_gs_2 p1) (cwV 1 hts g_c_X11_listChanges_c_X1_get_0 rfl rfl rfl (by decide +kernel) ⟨Nat.le_of_ble_eq_true rfl, Nat.le_of_ble_eq_true rfl⟩) ⟨fun a U g mk q => by obtain ⟨q0, q1, qP, qK, qD⟩ := q; exact ⟨q0, q1, qP, va_K.moved (u := U) (U := U.calling g mk a) (Vm.Alike.refl U.vm) qK, qD⟩, va_recv hKc hPc (ci := 1) (q0 := 0) rfl rfl, fun U hU hW => ⟨rfl, by rw [hU], by rw [hU]; exact hPc, va_K.moved hW.alike hKc, hDc.weaken (fun _ _ _ _ => trivial)⟩⟩ rfl rfl hl.1 rfl (lv_room (Nat.le_of_ble_eq_true rfl)) dX11_listChanges_15 ⟨Nat.le_of_ble_eq_true rfl, Nat.le_of_ble_eq_true rfl⟩) hS (fun q _ h => hFc q h) hFc (fun r_2 u t H1 locs ht hvm hw hB hz1 hk1 hS => ?_)
  obtain ⟨hP1, hD1⟩ := hB
  rw [ht] at hP1
  obtain ⟨hP, hD⟩ := va_join (wr := [(h0, .inr (11, fs))]) (w1 := [(h1, .inr (1, gs))]) hP hD [1] [0] rfl rfl (by decide) (by decide) hk1 hFc hP1 hD1
  generalize H1 = H at hP hS ⊢
  have hP : va_P (dC, dI) vwCl [(h0, .inr (11, fs)), (h1, .inr (1, gs))] H := hP
  have hD : va_D A [(h0, .inr (11, fs)), (h1, .inr (1, gs))] := hD
  refine W.widen (k := 0) (n := 0) (Nat.le_of_ble_eq_true rfl) (Nat.le_of_ble_eq_true rfl) ?_
  have e_2 : r_2 = none := hw
  subst e_2
  refine W.eq (g2 := F0 m 18 ls [.null]) rfl ?_
  refine lv_astoreN (lv' := [(5, .null), (4, .null), (0, .ref h0), (1, .ref h2), (2, .int p0), (3, .int p1)]) hx hb dX11_listChanges_18 hl (by decide) rfl (fun ls hl => ?_)
  refine lv_aloadN hx hb dX11_listChanges_20 (lv_at hl 1 rfl) ?_
  refine lv_ifnullN (tgt := 30) hx hb dX11_listChanges_22 (by decide) ?_
  refine lv_iconst (v := 0) hx hb dX11_listChanges_30 (by decide) ?_
  refine W.widen (k := 0) (n := 0) (Nat.le_of_ble_eq_true rfl) (Nat.le_of_ble_eq_true rfl) ?_
  have hP9 := hP.sub (ws' := [(h0, .inr (11, fs)), (h1, .inr (1, gs))]) [0, 1] rfl
  have hD9 := hD.sub (ws' := [(h0, .inr (11, fs)), (h1, .inr (1, gs))]) [0, 1] (by decide) rfl
  exact W.zret (v := 0) hx hb hr (rfl) (fun t ht hW => ⟨⟨0, (), rfl, rfl, by rw [ht]; exact hP9, hD9⟩, hS.F ht⟩) hS.2.2 dX11_listChanges_31
def u_c_X11_changes : List Cond := .code yX11_changes cX11_changes 3 (some .int) :: ([.fieldLink RX11 96 "CakePapers" "changesOfOne" "LCakePapers$Changes;", .code yX11_listChanges cX11_listChanges 6 (some .boolean), .fieldLink RX11 39 "CakePapers" "desk" "LCakePapers$Desk;", .code yX1_get cX1_get 2 (some (.object "CakePapers$Paper")), .fieldLink RX1 24 "CakePapers$Desk" "count" "I", .methodLink RX11 148 yX1_get, .instanceMethod yX1_get, .selects RX1 yX1_get yX1_get, .initialized RX1, .methodLink RX11 201 yX11_listChanges, .instanceMethod yX11_listChanges, .selects RX11 yX11_listChanges yX11_listChanges, .initialized RX11] ++ wsX110 ++ wsX10)
theorem iX11_c_X11_changes : ∀ w ∈ wsX110, w ∈ u_c_X11_changes := fun w h => List.mem_cons_of_mem _ (List.mem_append_left _ (List.mem_append_right _ h))
theorem iX1_c_X11_changes : ∀ w ∈ wsX10, w ∈ u_c_X11_changes := fun w h => List.mem_cons_of_mem _ (List.mem_append_right _ h)
set_option maxRecDepth 20000 in
theorem g_c_X11_changes_c_X11_listChanges_0 : GoodIn u_c_X11_changes (wsV RX11 201 RX11 yX11_listChanges u_c_X11_listChanges) := goodIn_app (goodIn_of _ (by decide +kernel)) (goodIn_ca (goodIn_ca (goodIn_of (.code yX11_listChanges cX11_listChanges 6 (some .boolean) :: [.fieldLink RX11 39 "CakePapers" "desk" "LCakePapers$Desk;", .code yX1_get cX1_get 2 (some (.object "CakePapers$Paper")), .fieldLink RX1 24 "CakePapers$Desk" "count" "I", .methodLink RX11 148 yX1_get, .instanceMethod yX1_get, .selects RX1 yX1_get yX1_get, .initialized RX1]) (by decide +kernel)) (goodIn_sub iX11_c_X11_changes zgX11)) (goodIn_sub iX1_c_X11_changes zgX1))
set_option maxHeartbeats 1000000 in
set_option maxRecDepth 100000 in
theorem c_X11_changes (l : Launch) (dC : Nat → ClassId) (dI : Nat → Nat → Nat) (sz : Nat) (h0 h1 h3 : Nat) (fs : List Value) (hn_fs : fs.length = 16) (e_fs_5 : fs[5]? = some (.ref h1)) (e_fs_12 : fs[12]? = some (.ref h3)) (gs : List Value) (hn_gs : gs.length = 3) (e_gs_2 : gs[2]? = some (.int 0)) (p0 : Int32) (p1 : Int32) : Met l yX11_changes u_c_X11_changes ({ frames := 2, cells := 0, slots := 0, locals := 46 }) (va_Pc [.ref h0, .int p0, .int p1] (fun U => U.heap.size = sz ∧ va_P (dC, dI) vwCl [(h0, .inr (11, fs)), (h1, .inr (1, gs))] U.heap ∧ va_K (dC, dI) vwCl [] U ∧ va_D (fun _ => True) [(h0, .inr (11, fs)), (h1, .inr (1, gs))])) (va_Qi (fun (r : Int32) (_ : Unit) => r = (-1)) (fun _ _ => True) (va_A [(h0, .inr (11, fs)), (h1, .inr (1, gs))] sz)) 0 0 (va_A [(h0, .inr (11, fs)), (h1, .inr (1, gs))] sz) := by
  refine Met.ofW (cc := cX11_changes) (maxL := 3) (ret := (some .int)) (by decide) rfl ?_
  intro p e s m args below meth c s₁ B hml hv
  obtain ⟨rfl, hsz, hP, hK, hD0⟩ := hv
  have hx := B.exec
  have hb := B.bytes
  have hr := B.returns
  have hts := atoms_spec (ws := u_c_X11_changes) B.pre
  have hown : s.vm.findClass RX11 = some m.cls := findClass_of_methodNamed B.named
  have hlocks := B.notSynchronized
  have hiX11 := iX11_c_X11_changes
  have hiX1 := iX1_c_X11_changes
  subst hsz
  have hD := hD0.self (sz := s.heap.size)
  generalize hAe : va_A [(h0, .inr (11, fs)), (h1, .inr (1, gs))] s.heap.size = A at hD ⊢
  have hA : ∀ q : Nat, s.heap.size ≤ q → A q := fun q h => by rw [← hAe]; exact Or.inr h
  have hS : va_S A s.heap s.heap [] := va_S.rf
  obtain ⟨H, hH⟩ : ∃ H : Heap, H = s.heap := ⟨_, rfl⟩
  have hP : va_P (dC, dI) vwCl [(h0, .inr (11, fs)), (h1, .inr (1, gs))] H := by rw [hH]; exact hP
  have hS : va_S A s.heap H [] := by rw [hH]; exact hS
  have hl := lv_entry ([.ref h0, .int p0, .int p1]) (n := 3) (Nat.le_of_ble_eq_true rfl)
  rw [lg_entry_eq]
  generalize (lg_sl ([.ref h0, .int p0, .int p1]) ++ List.replicate (3 - (lg_sl ([.ref h0, .int p0, .int p1])).length) Slot.unset).toArray = ls at hl ⊢
  have hl : lv_has ls 3 [(0, .ref h0), (1, .int p0), (2, .int p1)] := hl
  suffices h9 : W p l e (headSpec u_c_X11_changes _).room s m _ below meth c H [] 0 0 _ (F0 m 0 ls []) by rw [hH] at h9; exact h9
  refine lv_aload_n hx hb dX11_changes_0 rfl (lv_at hl 0 rfl) ?_
  refine lv_aload_n hx hb dX11_changes_1 rfl (lv_at hl 0 rfl) ?_
  refine va_get (D := (dC, dI)) (ci := 11) (v := .ref h3) (C := RX11) (T := TX11) (N := 16) hx hb hts hiX11 hown hK hP 0 rfl rfl 12 (by decide) (hts (.fieldLink RX11 96 "CakePapers" "changesOfOne" "LCakePapers$Changes;") (by decide +kernel)) (fun _ h9 => h9) e_fs_12 dX11_changes_2 ?_
  refine lv_iload_n hx hb dX11_changes_5 rfl (lv_at hl 1 rfl) ?_
  refine lv_iload_n hx hb dX11_changes_6 rfl (lv_at hl 2 rfl) ?_
  have hPc := hP.sub (ws' := [(h0, .inr (11, fs)), (h1, .inr (1, gs))]) [0, 1] rfl
  have hDc := hD.sub (ws' := [(h0, .inr (11, fs)), (h1, .inr (1, gs))]) [0, 1] (by decide) rfl
  have hKc := hK.sub (tys' := []) [] rfl
  have hFc := va_free (wc := [(h0, .inr (11, fs)), (h1, .inr (1, gs))]) hD hS hA [0, 1] rfl
  refine va_calli (va_runV (As := [.ref h3, .int p0, .int p1]) (rest := []) ⟨hx, hb, hml, hown, hts⟩ (c_X11_listChanges l dC dI H.size h0 h3 h1 fs hn_fs e_fs_5 gs hn_gs e_gs_2 p0 p1) (cwV 3 hts g_c_X11_changes_c_X11_listChanges_0 rfl rfl rfl (by decide +kernel) ⟨Nat.le_of_ble_eq_true rfl, Nat.le_of_ble_eq_true rfl⟩) ⟨fun a U g mk q => by obtain ⟨q0, q1, qP, qK, qD⟩ := q; exact ⟨q0, q1, qP, va_K.moved (u := U) (U := U.calling g mk a) (Vm.Alike.refl U.vm) qK, qD⟩, va_recv hKc hPc (ci := 11) (q0 := 0) rfl rfl, fun U hU hW => ⟨rfl, by rw [hU], by rw [hU]; exact hPc, va_K.moved hW.alike hKc, hDc.weaken (fun _ _ _ _ => trivial)⟩⟩ rfl rfl hl.1 rfl (lv_room (Nat.le_of_ble_eq_true rfl)) dX11_changes_7 ⟨Nat.le_of_ble_eq_true rfl, Nat.le_of_ble_eq_true rfl⟩) hS (fun q _ h => hFc q h) hFc (fun r_1 u t H1 locs ht hvm hw hB hz1 hk1 hS => ?_)
  obtain ⟨hP1, hD1⟩ := hB
  rw [ht] at hP1
  obtain ⟨hP, hD⟩ := va_join (wr := []) (w1 := [(h0, .inr (11, fs)), (h1, .inr (1, gs))]) hP hD [0, 1] [] rfl rfl (by decide) (by decide) hk1 hFc hP1 hD1
  generalize H1 = H at hP hS ⊢
  have hP : va_P (dC, dI) vwCl [(h0, .inr (11, fs)), (h1, .inr (1, gs))] H := hP
  have hD : va_D A [(h0, .inr (11, fs)), (h1, .inr (1, gs))] := hD
  refine W.widen (k := 0) (n := 0) (Nat.le_of_ble_eq_true rfl) (Nat.le_of_ble_eq_true rfl) ?_
  refine zz_ci (y := 0) hw ?_
  refine lv_if_eq (tgt := 23) hx hb dX11_changes_10 (by decide) (fun c_2 => ?_) (fun c_2 => absurd c_2 (by decide))
  refine lv_iconst (v := (-1)) hx hb dX11_changes_23 (by decide) ?_
  refine W.widen (k := 0) (n := 0) (Nat.le_of_ble_eq_true rfl) (Nat.le_of_ble_eq_true rfl) ?_
  exact W.iret (v := (-1)) hx hb hr (fun t ht hW => ⟨⟨(-1), (), rfl, rfl, trivial⟩, hS.F ht⟩) hS.2.2 dX11_changes_24
def u_c_X11_change : List Cond := .code yX11_change cX11_change 5 (some .int) :: ([.fieldLink RX11 96 "CakePapers" "changesOfOne" "LCakePapers$Changes;", .code yX11_listChanges cX11_listChanges 6 (some .boolean), .fieldLink RX11 39 "CakePapers" "desk" "LCakePapers$Desk;", .code yX1_get cX1_get 2 (some (.object "CakePapers$Paper")), .fieldLink RX1 24 "CakePapers$Desk" "count" "I", .methodLink RX11 148 yX1_get, .instanceMethod yX1_get, .selects RX1 yX1_get yX1_get, .initialized RX1, .methodLink RX11 201 yX11_listChanges, .instanceMethod yX11_listChanges, .selects RX11 yX11_listChanges yX11_listChanges, .initialized RX11] ++ wsX110 ++ wsX10)
theorem iX11_c_X11_change : ∀ w ∈ wsX110, w ∈ u_c_X11_change := fun w h => List.mem_cons_of_mem _ (List.mem_append_left _ (List.mem_append_right _ h))
theorem iX1_c_X11_change : ∀ w ∈ wsX10, w ∈ u_c_X11_change := fun w h => List.mem_cons_of_mem _ (List.mem_append_right _ h)
set_option maxRecDepth 20000 in
theorem g_c_X11_change_c_X11_listChanges_0 : GoodIn u_c_X11_change (wsV RX11 201 RX11 yX11_listChanges u_c_X11_listChanges) := goodIn_app (goodIn_of _ (by decide +kernel)) (goodIn_ca (goodIn_ca (goodIn_of (.code yX11_listChanges cX11_listChanges 6 (some .boolean) :: [.fieldLink RX11 39 "CakePapers" "desk" "LCakePapers$Desk;", .code yX1_get cX1_get 2 (some (.object "CakePapers$Paper")), .fieldLink RX1 24 "CakePapers$Desk" "count" "I", .methodLink RX11 148 yX1_get, .instanceMethod yX1_get, .selects RX1 yX1_get yX1_get, .initialized RX1]) (by decide +kernel)) (goodIn_sub iX11_c_X11_change zgX11)) (goodIn_sub iX1_c_X11_change zgX1))
set_option maxHeartbeats 1000000 in
set_option maxRecDepth 100000 in
theorem c_X11_change (l : Launch) (dC : Nat → ClassId) (dI : Nat → Nat → Nat) (sz : Nat) (h0 h1 h3 : Nat) (fs : List Value) (hn_fs : fs.length = 16) (e_fs_5 : fs[5]? = some (.ref h1)) (e_fs_12 : fs[12]? = some (.ref h3)) (gs : List Value) (hn_gs : gs.length = 3) (e_gs_2 : gs[2]? = some (.int 0)) (p0 : Int32) (p1 : Int32) (p2 : Int32) (p3 : Int32) : Met l yX11_change u_c_X11_change ({ frames := 2, cells := 0, slots := 0, locals := 46 }) (va_Pc [.ref h0, .int p0, .int p1, .int p2, .int p3] (fun U => U.heap.size = sz ∧ va_P (dC, dI) vwCl [(h0, .inr (11, fs)), (h1, .inr (1, gs))] U.heap ∧ va_K (dC, dI) vwCl [] U ∧ va_D (fun _ => True) [(h0, .inr (11, fs)), (h1, .inr (1, gs))])) (va_Qi (fun (r : Int32) (_ : Unit) => r = (-1)) (fun _ _ => True) (va_A [(h0, .inr (11, fs)), (h1, .inr (1, gs))] sz)) 0 0 (va_A [(h0, .inr (11, fs)), (h1, .inr (1, gs))] sz) := by
  refine Met.ofW (cc := cX11_change) (maxL := 5) (ret := (some .int)) (by decide) rfl ?_
  intro p e s m args below meth c s₁ B hml hv
  obtain ⟨rfl, hsz, hP, hK, hD0⟩ := hv
  have hx := B.exec
  have hb := B.bytes
  have hr := B.returns
  have hts := atoms_spec (ws := u_c_X11_change) B.pre
  have hown : s.vm.findClass RX11 = some m.cls := findClass_of_methodNamed B.named
  have hlocks := B.notSynchronized
  have hiX11 := iX11_c_X11_change
  have hiX1 := iX1_c_X11_change
  subst hsz
  have hD := hD0.self (sz := s.heap.size)
  generalize hAe : va_A [(h0, .inr (11, fs)), (h1, .inr (1, gs))] s.heap.size = A at hD ⊢
  have hA : ∀ q : Nat, s.heap.size ≤ q → A q := fun q h => by rw [← hAe]; exact Or.inr h
  have hS : va_S A s.heap s.heap [] := va_S.rf
  obtain ⟨H, hH⟩ : ∃ H : Heap, H = s.heap := ⟨_, rfl⟩
  have hP : va_P (dC, dI) vwCl [(h0, .inr (11, fs)), (h1, .inr (1, gs))] H := by rw [hH]; exact hP
  have hS : va_S A s.heap H [] := by rw [hH]; exact hS
  have hl := lv_entry ([.ref h0, .int p0, .int p1, .int p2, .int p3]) (n := 5) (Nat.le_of_ble_eq_true rfl)
  rw [lg_entry_eq]
  generalize (lg_sl ([.ref h0, .int p0, .int p1, .int p2, .int p3]) ++ List.replicate (5 - (lg_sl ([.ref h0, .int p0, .int p1, .int p2, .int p3])).length) Slot.unset).toArray = ls at hl ⊢
  have hl : lv_has ls 5 [(0, .ref h0), (1, .int p0), (2, .int p1), (3, .int p2), (4, .int p3)] := hl
  suffices h9 : W p l e (headSpec u_c_X11_change _).room s m _ below meth c H [] 0 0 _ (F0 m 0 ls []) by rw [hH] at h9; exact h9
  refine lv_aload_n hx hb dX11_change_0 rfl (lv_at hl 0 rfl) ?_
  refine lv_aload_n hx hb dX11_change_1 rfl (lv_at hl 0 rfl) ?_
  refine va_get (D := (dC, dI)) (ci := 11) (v := .ref h3) (C := RX11) (T := TX11) (N := 16) hx hb hts hiX11 hown hK hP 0 rfl rfl 12 (by decide) (hts (.fieldLink RX11 96 "CakePapers" "changesOfOne" "LCakePapers$Changes;") (by decide +kernel)) (fun _ h9 => h9) e_fs_12 dX11_change_2 ?_
  refine lv_iload_n hx hb dX11_change_5 rfl (lv_at hl 1 rfl) ?_
  refine lv_iload_n hx hb dX11_change_6 rfl (lv_at hl 2 rfl) ?_
  have hPc := hP.sub (ws' := [(h0, .inr (11, fs)), (h1, .inr (1, gs))]) [0, 1] rfl
  have hDc := hD.sub (ws' := [(h0, .inr (11, fs)), (h1, .inr (1, gs))]) [0, 1] (by decide) rfl
  have hKc := hK.sub (tys' := []) [] rfl
  have hFc := va_free (wc := [(h0, .inr (11, fs)), (h1, .inr (1, gs))]) hD hS hA [0, 1] rfl
  refine va_calli (va_runV (As := [.ref h3, .int p0, .int p1]) (rest := []) ⟨hx, hb, hml, hown, hts⟩ (c_X11_listChanges l dC dI H.size h0 h3 h1 fs hn_fs e_fs_5 gs hn_gs e_gs_2 p0 p1) (cwV 3 hts g_c_X11_change_c_X11_listChanges_0 rfl rfl rfl (by decide +kernel) ⟨Nat.le_of_ble_eq_true rfl, Nat.le_of_ble_eq_true rfl⟩) ⟨fun a U g mk q => by obtain ⟨q0, q1, qP, qK, qD⟩ := q; exact ⟨q0, q1, qP, va_K.moved (u := U) (U := U.calling g mk a) (Vm.Alike.refl U.vm) qK, qD⟩, va_recv hKc hPc (ci := 11) (q0 := 0) rfl rfl, fun U hU hW => ⟨rfl, by rw [hU], by rw [hU]; exact hPc, va_K.moved hW.alike hKc, hDc.weaken (fun _ _ _ _ => trivial)⟩⟩ rfl rfl hl.1 rfl (lv_room (Nat.le_of_ble_eq_true rfl)) dX11_change_7 ⟨Nat.le_of_ble_eq_true rfl, Nat.le_of_ble_eq_true rfl⟩) hS (fun q _ h => hFc q h) hFc (fun r_1 u t H1 locs ht hvm hw hB hz1 hk1 hS => ?_)
  obtain ⟨hP1, hD1⟩ := hB
  rw [ht] at hP1
  obtain ⟨hP, hD⟩ := va_join (wr := []) (w1 := [(h0, .inr (11, fs)), (h1, .inr (1, gs))]) hP hD [0, 1] [] rfl rfl (by decide) (by decide) hk1 hFc hP1 hD1
  generalize H1 = H at hP hS ⊢
  have hP : va_P (dC, dI) vwCl [(h0, .inr (11, fs)), (h1, .inr (1, gs))] H := hP
  have hD : va_D A [(h0, .inr (11, fs)), (h1, .inr (1, gs))] := hD
  refine W.widen (k := 0) (n := 0) (Nat.le_of_ble_eq_true rfl) (Nat.le_of_ble_eq_true rfl) ?_
  refine zz_ci (y := 0) hw ?_
  refine lv_if_eq (tgt := 24) hx hb dX11_change_10 (by decide) (fun c_2 => ?_) (fun c_2 => absurd c_2 (by decide))
  refine lv_iconst (v := (-1)) hx hb dX11_change_24 (by decide) ?_
  refine W.widen (k := 0) (n := 0) (Nat.le_of_ble_eq_true rfl) (Nat.le_of_ble_eq_true rfl) ?_
  exact W.iret (v := (-1)) hx hb hr (fun t ht hW => ⟨⟨(-1), (), rfl, rfl, trivial⟩, hS.F ht⟩) hS.2.2 dX11_change_25
def u_c_X11_does : List Cond := .code yX11_does cX11_does 6 (some .int) :: ([.fieldLink RX11 96 "CakePapers" "changesOfOne" "LCakePapers$Changes;", .code yX11_listChanges cX11_listChanges 6 (some .boolean), .fieldLink RX11 39 "CakePapers" "desk" "LCakePapers$Desk;", .code yX1_get cX1_get 2 (some (.object "CakePapers$Paper")), .fieldLink RX1 24 "CakePapers$Desk" "count" "I", .methodLink RX11 148 yX1_get, .instanceMethod yX1_get, .selects RX1 yX1_get yX1_get, .initialized RX1, .methodLink RX11 201 yX11_listChanges, .instanceMethod yX11_listChanges, .selects RX11 yX11_listChanges yX11_listChanges, .initialized RX11, .constant RX11 224 (-1000000)] ++ wsX110 ++ wsX10)
theorem iX11_c_X11_does : ∀ w ∈ wsX110, w ∈ u_c_X11_does := fun w h => List.mem_cons_of_mem _ (List.mem_append_left _ (List.mem_append_right _ h))
theorem iX1_c_X11_does : ∀ w ∈ wsX10, w ∈ u_c_X11_does := fun w h => List.mem_cons_of_mem _ (List.mem_append_right _ h)
set_option maxRecDepth 20000 in
theorem g_c_X11_does_c_X11_listChanges_0 : GoodIn u_c_X11_does (wsV RX11 201 RX11 yX11_listChanges u_c_X11_listChanges) := goodIn_app (goodIn_of _ (by decide +kernel)) (goodIn_ca (goodIn_ca (goodIn_of (.code yX11_listChanges cX11_listChanges 6 (some .boolean) :: [.fieldLink RX11 39 "CakePapers" "desk" "LCakePapers$Desk;", .code yX1_get cX1_get 2 (some (.object "CakePapers$Paper")), .fieldLink RX1 24 "CakePapers$Desk" "count" "I", .methodLink RX11 148 yX1_get, .instanceMethod yX1_get, .selects RX1 yX1_get yX1_get, .initialized RX1]) (by decide +kernel)) (goodIn_sub iX11_c_X11_does zgX11)) (goodIn_sub iX1_c_X11_does zgX1))
set_option maxHeartbeats 1000000 in
set_option maxRecDepth 100000 in
theorem c_X11_does (l : Launch) (dC : Nat → ClassId) (dI : Nat → Nat → Nat) (sz : Nat) (h0 h1 h3 : Nat) (fs : List Value) (hn_fs : fs.length = 16) (e_fs_5 : fs[5]? = some (.ref h1)) (e_fs_12 : fs[12]? = some (.ref h3)) (gs : List Value) (hn_gs : gs.length = 3) (e_gs_2 : gs[2]? = some (.int 0)) (p0 : Int32) (p1 : Int32) (p2 : Int32) : Met l yX11_does u_c_X11_does ({ frames := 2, cells := 0, slots := 0, locals := 46 }) (va_Pc [.ref h0, .int p0, .int p1, .int p2] (fun U => U.heap.size = sz ∧ va_P (dC, dI) vwCl [(h0, .inr (11, fs)), (h1, .inr (1, gs))] U.heap ∧ va_K (dC, dI) vwCl [] U ∧ va_D (fun _ => True) [(h0, .inr (11, fs)), (h1, .inr (1, gs))])) (va_Qi (fun (r : Int32) (_ : Unit) => r = (-1000000)) (fun _ _ => True) (va_A [(h0, .inr (11, fs)), (h1, .inr (1, gs))] sz)) 0 0 (va_A [(h0, .inr (11, fs)), (h1, .inr (1, gs))] sz) := by
  refine Met.ofW (cc := cX11_does) (maxL := 6) (ret := (some .int)) (by decide) rfl ?_
  intro p e s m args below meth c s₁ B hml hv
  obtain ⟨rfl, hsz, hP, hK, hD0⟩ := hv
  have hx := B.exec
  have hb := B.bytes
  have hr := B.returns
  have hts := atoms_spec (ws := u_c_X11_does) B.pre
  have hown : s.vm.findClass RX11 = some m.cls := findClass_of_methodNamed B.named
  have hlocks := B.notSynchronized
  have hiX11 := iX11_c_X11_does
  have hiX1 := iX1_c_X11_does
  subst hsz
  have hD := hD0.self (sz := s.heap.size)
  generalize hAe : va_A [(h0, .inr (11, fs)), (h1, .inr (1, gs))] s.heap.size = A at hD ⊢
  have hA : ∀ q : Nat, s.heap.size ≤ q → A q := fun q h => by rw [← hAe]; exact Or.inr h
  have hS : va_S A s.heap s.heap [] := va_S.rf
  obtain ⟨H, hH⟩ : ∃ H : Heap, H = s.heap := ⟨_, rfl⟩
  have hP : va_P (dC, dI) vwCl [(h0, .inr (11, fs)), (h1, .inr (1, gs))] H := by rw [hH]; exact hP
  have hS : va_S A s.heap H [] := by rw [hH]; exact hS
  have hl := lv_entry ([.ref h0, .int p0, .int p1, .int p2]) (n := 6) (Nat.le_of_ble_eq_true rfl)
  rw [lg_entry_eq]
  generalize (lg_sl ([.ref h0, .int p0, .int p1, .int p2]) ++ List.replicate (6 - (lg_sl ([.ref h0, .int p0, .int p1, .int p2])).length) Slot.unset).toArray = ls at hl ⊢
  have hl : lv_has ls 6 [(0, .ref h0), (1, .int p0), (2, .int p1), (3, .int p2)] := hl
  suffices h9 : W p l e (headSpec u_c_X11_does _).room s m _ below meth c H [] 0 0 _ (F0 m 0 ls []) by rw [hH] at h9; exact h9
  refine lv_aload_n hx hb dX11_does_0 rfl (lv_at hl 0 rfl) ?_
  refine lv_aload_n hx hb dX11_does_1 rfl (lv_at hl 0 rfl) ?_
  refine va_get (D := (dC, dI)) (ci := 11) (v := .ref h3) (C := RX11) (T := TX11) (N := 16) hx hb hts hiX11 hown hK hP 0 rfl rfl 12 (by decide) (hts (.fieldLink RX11 96 "CakePapers" "changesOfOne" "LCakePapers$Changes;") (by decide +kernel)) (fun _ h9 => h9) e_fs_12 dX11_does_2 ?_
  refine lv_iload_n hx hb dX11_does_5 rfl (lv_at hl 1 rfl) ?_
  refine lv_iload_n hx hb dX11_does_6 rfl (lv_at hl 2 rfl) ?_
  have hPc := hP.sub (ws' := [(h0, .inr (11, fs)), (h1, .inr (1, gs))]) [0, 1] rfl
  have hDc := hD.sub (ws' := [(h0, .inr (11, fs)), (h1, .inr (1, gs))]) [0, 1] (by decide) rfl
  have hKc := hK.sub (tys' := []) [] rfl
  have hFc := va_free (wc := [(h0, .inr (11, fs)), (h1, .inr (1, gs))]) hD hS hA [0, 1] rfl
  refine va_calli (va_runV (As := [.ref h3, .int p0, .int p1]) (rest := []) ⟨hx, hb, hml, hown, hts⟩ (c_X11_listChanges l dC dI H.size h0 h3 h1 fs hn_fs e_fs_5 gs hn_gs e_gs_2 p0 p1) (cwV 3 hts g_c_X11_does_c_X11_listChanges_0 rfl rfl rfl (by decide +kernel) ⟨Nat.le_of_ble_eq_true rfl, Nat.le_of_ble_eq_true rfl⟩) ⟨fun a U g mk q => by obtain ⟨q0, q1, qP, qK, qD⟩ := q; exact ⟨q0, q1, qP, va_K.moved (u := U) (U := U.calling g mk a) (Vm.Alike.refl U.vm) qK, qD⟩, va_recv hKc hPc (ci := 11) (q0 := 0) rfl rfl, fun U hU hW => ⟨rfl, by rw [hU], by rw [hU]; exact hPc, va_K.moved hW.alike hKc, hDc.weaken (fun _ _ _ _ => trivial)⟩⟩ rfl rfl hl.1 rfl (lv_room (Nat.le_of_ble_eq_true rfl)) dX11_does_7 ⟨Nat.le_of_ble_eq_true rfl, Nat.le_of_ble_eq_true rfl⟩) hS (fun q _ h => hFc q h) hFc (fun r_1 u t H1 locs ht hvm hw hB hz1 hk1 hS => ?_)
  obtain ⟨hP1, hD1⟩ := hB
  rw [ht] at hP1
  obtain ⟨hP, hD⟩ := va_join (wr := []) (w1 := [(h0, .inr (11, fs)), (h1, .inr (1, gs))]) hP hD [0, 1] [] rfl rfl (by decide) (by decide) hk1 hFc hP1 hD1
  generalize H1 = H at hP hS ⊢
  have hP : va_P (dC, dI) vwCl [(h0, .inr (11, fs)), (h1, .inr (1, gs))] H := hP
  have hD : va_D A [(h0, .inr (11, fs)), (h1, .inr (1, gs))] := hD
  refine W.widen (k := 0) (n := 0) (Nat.le_of_ble_eq_true rfl) (Nat.le_of_ble_eq_true rfl) ?_
  refine zz_ci (y := 0) hw ?_
  refine lv_if_ne (tgt := 16) hx hb dX11_does_10 (by decide) (fun c_2 => absurd c_2 (by decide)) (fun c_2 => ?_)
  refine lv_ldc (v := (-1000000)) hx hb hown (hts (.constant RX11 224 (-1000000)) (by decide +kernel)) dX11_does_13 ?_
  refine W.widen (k := 0) (n := 0) (Nat.le_of_ble_eq_true rfl) (Nat.le_of_ble_eq_true rfl) ?_
  exact W.iret (v := (-1000000)) hx hb hr (fun t ht hW => ⟨⟨(-1000000), (), rfl, rfl, trivial⟩, hS.F ht⟩) hS.2.2 dX11_does_15
def u_c_X11_ruin : List Cond := .code yX11_ruin cX11_ruin 9 (some .int) :: ([.fieldLink RX11 96 "CakePapers" "changesOfOne" "LCakePapers$Changes;", .code yX11_listChanges cX11_listChanges 6 (some .boolean), .fieldLink RX11 39 "CakePapers" "desk" "LCakePapers$Desk;", .code yX1_get cX1_get 2 (some (.object "CakePapers$Paper")), .fieldLink RX1 24 "CakePapers$Desk" "count" "I", .methodLink RX11 148 yX1_get, .instanceMethod yX1_get, .selects RX1 yX1_get yX1_get, .initialized RX1, .methodLink RX11 201 yX11_listChanges, .instanceMethod yX11_listChanges, .selects RX11 yX11_listChanges yX11_listChanges, .initialized RX11] ++ wsX110 ++ wsX10)
theorem iX11_c_X11_ruin : ∀ w ∈ wsX110, w ∈ u_c_X11_ruin := fun w h => List.mem_cons_of_mem _ (List.mem_append_left _ (List.mem_append_right _ h))
theorem iX1_c_X11_ruin : ∀ w ∈ wsX10, w ∈ u_c_X11_ruin := fun w h => List.mem_cons_of_mem _ (List.mem_append_right _ h)
set_option maxRecDepth 20000 in
theorem g_c_X11_ruin_c_X11_listChanges_0 : GoodIn u_c_X11_ruin (wsV RX11 201 RX11 yX11_listChanges u_c_X11_listChanges) := goodIn_app (goodIn_of _ (by decide +kernel)) (goodIn_ca (goodIn_ca (goodIn_of (.code yX11_listChanges cX11_listChanges 6 (some .boolean) :: [.fieldLink RX11 39 "CakePapers" "desk" "LCakePapers$Desk;", .code yX1_get cX1_get 2 (some (.object "CakePapers$Paper")), .fieldLink RX1 24 "CakePapers$Desk" "count" "I", .methodLink RX11 148 yX1_get, .instanceMethod yX1_get, .selects RX1 yX1_get yX1_get, .initialized RX1]) (by decide +kernel)) (goodIn_sub iX11_c_X11_ruin zgX11)) (goodIn_sub iX1_c_X11_ruin zgX1))
set_option maxHeartbeats 1000000 in
set_option maxRecDepth 100000 in
theorem c_X11_ruin (l : Launch) (dC : Nat → ClassId) (dI : Nat → Nat → Nat) (sz : Nat) (h0 h1 h3 : Nat) (fs : List Value) (hn_fs : fs.length = 16) (e_fs_5 : fs[5]? = some (.ref h1)) (e_fs_12 : fs[12]? = some (.ref h3)) (gs : List Value) (hn_gs : gs.length = 3) (e_gs_2 : gs[2]? = some (.int 0)) (p0 : Int32) (p1 : Int32) (p2 : Int32) (p3 : Int32) : Met l yX11_ruin u_c_X11_ruin ({ frames := 2, cells := 0, slots := 0, locals := 46 }) (va_Pc [.ref h0, .int p0, .int p1, .int p2, .int p3] (fun U => U.heap.size = sz ∧ va_P (dC, dI) vwCl [(h0, .inr (11, fs)), (h1, .inr (1, gs))] U.heap ∧ va_K (dC, dI) vwCl [] U ∧ va_D (fun _ => True) [(h0, .inr (11, fs)), (h1, .inr (1, gs))])) (va_Qi (fun (r : Int32) (_ : Unit) => r = (-1)) (fun _ _ => True) (va_A [(h0, .inr (11, fs)), (h1, .inr (1, gs))] sz)) 0 0 (va_A [(h0, .inr (11, fs)), (h1, .inr (1, gs))] sz) := by
  refine Met.ofW (cc := cX11_ruin) (maxL := 9) (ret := (some .int)) (by decide) rfl ?_
  intro p e s m args below meth c s₁ B hml hv
  obtain ⟨rfl, hsz, hP, hK, hD0⟩ := hv
  have hx := B.exec
  have hb := B.bytes
  have hr := B.returns
  have hts := atoms_spec (ws := u_c_X11_ruin) B.pre
  have hown : s.vm.findClass RX11 = some m.cls := findClass_of_methodNamed B.named
  have hlocks := B.notSynchronized
  have hiX11 := iX11_c_X11_ruin
  have hiX1 := iX1_c_X11_ruin
  subst hsz
  have hD := hD0.self (sz := s.heap.size)
  generalize hAe : va_A [(h0, .inr (11, fs)), (h1, .inr (1, gs))] s.heap.size = A at hD ⊢
  have hA : ∀ q : Nat, s.heap.size ≤ q → A q := fun q h => by rw [← hAe]; exact Or.inr h
  have hS : va_S A s.heap s.heap [] := va_S.rf
  obtain ⟨H, hH⟩ : ∃ H : Heap, H = s.heap := ⟨_, rfl⟩
  have hP : va_P (dC, dI) vwCl [(h0, .inr (11, fs)), (h1, .inr (1, gs))] H := by rw [hH]; exact hP
  have hS : va_S A s.heap H [] := by rw [hH]; exact hS
  have hl := lv_entry ([.ref h0, .int p0, .int p1, .int p2, .int p3]) (n := 9) (Nat.le_of_ble_eq_true rfl)
  rw [lg_entry_eq]
  generalize (lg_sl ([.ref h0, .int p0, .int p1, .int p2, .int p3]) ++ List.replicate (9 - (lg_sl ([.ref h0, .int p0, .int p1, .int p2, .int p3])).length) Slot.unset).toArray = ls at hl ⊢
  have hl : lv_has ls 9 [(0, .ref h0), (1, .int p0), (2, .int p1), (3, .int p2), (4, .int p3)] := hl
  suffices h9 : W p l e (headSpec u_c_X11_ruin _).room s m _ below meth c H [] 0 0 _ (F0 m 0 ls []) by rw [hH] at h9; exact h9
  refine lv_aload_n hx hb dX11_ruin_0 rfl (lv_at hl 0 rfl) ?_
  refine lv_aload_n hx hb dX11_ruin_1 rfl (lv_at hl 0 rfl) ?_
  refine va_get (D := (dC, dI)) (ci := 11) (v := .ref h3) (C := RX11) (T := TX11) (N := 16) hx hb hts hiX11 hown hK hP 0 rfl rfl 12 (by decide) (hts (.fieldLink RX11 96 "CakePapers" "changesOfOne" "LCakePapers$Changes;") (by decide +kernel)) (fun _ h9 => h9) e_fs_12 dX11_ruin_2 ?_
  refine lv_iload_n hx hb dX11_ruin_5 rfl (lv_at hl 1 rfl) ?_
  refine lv_iload_n hx hb dX11_ruin_6 rfl (lv_at hl 2 rfl) ?_
  have hPc := hP.sub (ws' := [(h0, .inr (11, fs)), (h1, .inr (1, gs))]) [0, 1] rfl
  have hDc := hD.sub (ws' := [(h0, .inr (11, fs)), (h1, .inr (1, gs))]) [0, 1] (by decide) rfl
  have hKc := hK.sub (tys' := []) [] rfl
  have hFc := va_free (wc := [(h0, .inr (11, fs)), (h1, .inr (1, gs))]) hD hS hA [0, 1] rfl
  refine va_calli (va_runV (As := [.ref h3, .int p0, .int p1]) (rest := []) ⟨hx, hb, hml, hown, hts⟩ (c_X11_listChanges l dC dI H.size h0 h3 h1 fs hn_fs e_fs_5 gs hn_gs e_gs_2 p0 p1) (cwV 3 hts g_c_X11_ruin_c_X11_listChanges_0 rfl rfl rfl (by decide +kernel) ⟨Nat.le_of_ble_eq_true rfl, Nat.le_of_ble_eq_true rfl⟩) ⟨fun a U g mk q => by obtain ⟨q0, q1, qP, qK, qD⟩ := q; exact ⟨q0, q1, qP, va_K.moved (u := U) (U := U.calling g mk a) (Vm.Alike.refl U.vm) qK, qD⟩, va_recv hKc hPc (ci := 11) (q0 := 0) rfl rfl, fun U hU hW => ⟨rfl, by rw [hU], by rw [hU]; exact hPc, va_K.moved hW.alike hKc, hDc.weaken (fun _ _ _ _ => trivial)⟩⟩ rfl rfl hl.1 rfl (lv_room (Nat.le_of_ble_eq_true rfl)) dX11_ruin_7 ⟨Nat.le_of_ble_eq_true rfl, Nat.le_of_ble_eq_true rfl⟩) hS (fun q _ h => hFc q h) hFc (fun r_1 u t H1 locs ht hvm hw hB hz1 hk1 hS => ?_)
  obtain ⟨hP1, hD1⟩ := hB
  rw [ht] at hP1
  obtain ⟨hP, hD⟩ := va_join (wr := []) (w1 := [(h0, .inr (11, fs)), (h1, .inr (1, gs))]) hP hD [0, 1] [] rfl rfl (by decide) (by decide) hk1 hFc hP1 hD1
  generalize H1 = H at hP hS ⊢
  have hP : va_P (dC, dI) vwCl [(h0, .inr (11, fs)), (h1, .inr (1, gs))] H := hP
  have hD : va_D A [(h0, .inr (11, fs)), (h1, .inr (1, gs))] := hD
  refine W.widen (k := 0) (n := 0) (Nat.le_of_ble_eq_true rfl) (Nat.le_of_ble_eq_true rfl) ?_
  refine zz_ci (y := 0) hw ?_
  refine lv_if_eq (tgt := 26) hx hb dX11_ruin_10 (by decide) (fun c_2 => ?_) (fun c_2 => absurd c_2 (by decide))
  refine lv_iconst (v := (-1)) hx hb dX11_ruin_26 (by decide) ?_
  refine W.widen (k := 0) (n := 0) (Nat.le_of_ble_eq_true rfl) (Nat.le_of_ble_eq_true rfl) ?_
  exact W.iret (v := (-1)) hx hb hr (fun t ht hW => ⟨⟨(-1), (), rfl, rfl, trivial⟩, hS.F ht⟩) hS.2.2 dX11_ruin_27
def u_c_X11_leans : List Cond := .code yX11_leans cX11_leans 7 (some .int) :: ([.fieldLink RX11 96 "CakePapers" "changesOfOne" "LCakePapers$Changes;", .code yX11_listChanges cX11_listChanges 6 (some .boolean), .fieldLink RX11 39 "CakePapers" "desk" "LCakePapers$Desk;", .code yX1_get cX1_get 2 (some (.object "CakePapers$Paper")), .fieldLink RX1 24 "CakePapers$Desk" "count" "I", .methodLink RX11 148 yX1_get, .instanceMethod yX1_get, .selects RX1 yX1_get yX1_get, .initialized RX1, .methodLink RX11 201 yX11_listChanges, .instanceMethod yX11_listChanges, .selects RX11 yX11_listChanges yX11_listChanges, .initialized RX11] ++ wsX110 ++ wsX10)
theorem iX11_c_X11_leans : ∀ w ∈ wsX110, w ∈ u_c_X11_leans := fun w h => List.mem_cons_of_mem _ (List.mem_append_left _ (List.mem_append_right _ h))
theorem iX1_c_X11_leans : ∀ w ∈ wsX10, w ∈ u_c_X11_leans := fun w h => List.mem_cons_of_mem _ (List.mem_append_right _ h)
set_option maxRecDepth 20000 in
theorem g_c_X11_leans_c_X11_listChanges_0 : GoodIn u_c_X11_leans (wsV RX11 201 RX11 yX11_listChanges u_c_X11_listChanges) := goodIn_app (goodIn_of _ (by decide +kernel)) (goodIn_ca (goodIn_ca (goodIn_of (.code yX11_listChanges cX11_listChanges 6 (some .boolean) :: [.fieldLink RX11 39 "CakePapers" "desk" "LCakePapers$Desk;", .code yX1_get cX1_get 2 (some (.object "CakePapers$Paper")), .fieldLink RX1 24 "CakePapers$Desk" "count" "I", .methodLink RX11 148 yX1_get, .instanceMethod yX1_get, .selects RX1 yX1_get yX1_get, .initialized RX1]) (by decide +kernel)) (goodIn_sub iX11_c_X11_leans zgX11)) (goodIn_sub iX1_c_X11_leans zgX1))
set_option maxHeartbeats 1000000 in
set_option maxRecDepth 100000 in
theorem c_X11_leans (l : Launch) (dC : Nat → ClassId) (dI : Nat → Nat → Nat) (sz : Nat) (h0 h1 h3 : Nat) (fs : List Value) (hn_fs : fs.length = 16) (e_fs_5 : fs[5]? = some (.ref h1)) (e_fs_12 : fs[12]? = some (.ref h3)) (gs : List Value) (hn_gs : gs.length = 3) (e_gs_2 : gs[2]? = some (.int 0)) (p0 : Int32) (p1 : Int32) (p2 : Int32) : Met l yX11_leans u_c_X11_leans ({ frames := 2, cells := 0, slots := 0, locals := 46 }) (va_Pc [.ref h0, .int p0, .int p1, .int p2] (fun U => U.heap.size = sz ∧ va_P (dC, dI) vwCl [(h0, .inr (11, fs)), (h1, .inr (1, gs))] U.heap ∧ va_K (dC, dI) vwCl [] U ∧ va_D (fun _ => True) [(h0, .inr (11, fs)), (h1, .inr (1, gs))])) (va_Qi (fun (r : Int32) (_ : Unit) => r = (-1)) (fun _ _ => True) (va_A [(h0, .inr (11, fs)), (h1, .inr (1, gs))] sz)) 0 0 (va_A [(h0, .inr (11, fs)), (h1, .inr (1, gs))] sz) := by
  refine Met.ofW (cc := cX11_leans) (maxL := 7) (ret := (some .int)) (by decide) rfl ?_
  intro p e s m args below meth c s₁ B hml hv
  obtain ⟨rfl, hsz, hP, hK, hD0⟩ := hv
  have hx := B.exec
  have hb := B.bytes
  have hr := B.returns
  have hts := atoms_spec (ws := u_c_X11_leans) B.pre
  have hown : s.vm.findClass RX11 = some m.cls := findClass_of_methodNamed B.named
  have hlocks := B.notSynchronized
  have hiX11 := iX11_c_X11_leans
  have hiX1 := iX1_c_X11_leans
  subst hsz
  have hD := hD0.self (sz := s.heap.size)
  generalize hAe : va_A [(h0, .inr (11, fs)), (h1, .inr (1, gs))] s.heap.size = A at hD ⊢
  have hA : ∀ q : Nat, s.heap.size ≤ q → A q := fun q h => by rw [← hAe]; exact Or.inr h
  have hS : va_S A s.heap s.heap [] := va_S.rf
  obtain ⟨H, hH⟩ : ∃ H : Heap, H = s.heap := ⟨_, rfl⟩
  have hP : va_P (dC, dI) vwCl [(h0, .inr (11, fs)), (h1, .inr (1, gs))] H := by rw [hH]; exact hP
  have hS : va_S A s.heap H [] := by rw [hH]; exact hS
  have hl := lv_entry ([.ref h0, .int p0, .int p1, .int p2]) (n := 7) (Nat.le_of_ble_eq_true rfl)
  rw [lg_entry_eq]
  generalize (lg_sl ([.ref h0, .int p0, .int p1, .int p2]) ++ List.replicate (7 - (lg_sl ([.ref h0, .int p0, .int p1, .int p2])).length) Slot.unset).toArray = ls at hl ⊢
  have hl : lv_has ls 7 [(0, .ref h0), (1, .int p0), (2, .int p1), (3, .int p2)] := hl
  suffices h9 : W p l e (headSpec u_c_X11_leans _).room s m _ below meth c H [] 0 0 _ (F0 m 0 ls []) by rw [hH] at h9; exact h9
  refine lv_aload_n hx hb dX11_leans_0 rfl (lv_at hl 0 rfl) ?_
  refine lv_aload_n hx hb dX11_leans_1 rfl (lv_at hl 0 rfl) ?_
  refine va_get (D := (dC, dI)) (ci := 11) (v := .ref h3) (C := RX11) (T := TX11) (N := 16) hx hb hts hiX11 hown hK hP 0 rfl rfl 12 (by decide) (hts (.fieldLink RX11 96 "CakePapers" "changesOfOne" "LCakePapers$Changes;") (by decide +kernel)) (fun _ h9 => h9) e_fs_12 dX11_leans_2 ?_
  refine lv_iload_n hx hb dX11_leans_5 rfl (lv_at hl 1 rfl) ?_
  refine lv_iload_n hx hb dX11_leans_6 rfl (lv_at hl 2 rfl) ?_
  have hPc := hP.sub (ws' := [(h0, .inr (11, fs)), (h1, .inr (1, gs))]) [0, 1] rfl
  have hDc := hD.sub (ws' := [(h0, .inr (11, fs)), (h1, .inr (1, gs))]) [0, 1] (by decide) rfl
  have hKc := hK.sub (tys' := []) [] rfl
  have hFc := va_free (wc := [(h0, .inr (11, fs)), (h1, .inr (1, gs))]) hD hS hA [0, 1] rfl
  refine va_calli (va_runV (As := [.ref h3, .int p0, .int p1]) (rest := []) ⟨hx, hb, hml, hown, hts⟩ (c_X11_listChanges l dC dI H.size h0 h3 h1 fs hn_fs e_fs_5 gs hn_gs e_gs_2 p0 p1) (cwV 3 hts g_c_X11_leans_c_X11_listChanges_0 rfl rfl rfl (by decide +kernel) ⟨Nat.le_of_ble_eq_true rfl, Nat.le_of_ble_eq_true rfl⟩) ⟨fun a U g mk q => by obtain ⟨q0, q1, qP, qK, qD⟩ := q; exact ⟨q0, q1, qP, va_K.moved (u := U) (U := U.calling g mk a) (Vm.Alike.refl U.vm) qK, qD⟩, va_recv hKc hPc (ci := 11) (q0 := 0) rfl rfl, fun U hU hW => ⟨rfl, by rw [hU], by rw [hU]; exact hPc, va_K.moved hW.alike hKc, hDc.weaken (fun _ _ _ _ => trivial)⟩⟩ rfl rfl hl.1 rfl (lv_room (Nat.le_of_ble_eq_true rfl)) dX11_leans_7 ⟨Nat.le_of_ble_eq_true rfl, Nat.le_of_ble_eq_true rfl⟩) hS (fun q _ h => hFc q h) hFc (fun r_1 u t H1 locs ht hvm hw hB hz1 hk1 hS => ?_)
  obtain ⟨hP1, hD1⟩ := hB
  rw [ht] at hP1
  obtain ⟨hP, hD⟩ := va_join (wr := []) (w1 := [(h0, .inr (11, fs)), (h1, .inr (1, gs))]) hP hD [0, 1] [] rfl rfl (by decide) (by decide) hk1 hFc hP1 hD1
  generalize H1 = H at hP hS ⊢
  have hP : va_P (dC, dI) vwCl [(h0, .inr (11, fs)), (h1, .inr (1, gs))] H := hP
  have hD : va_D A [(h0, .inr (11, fs)), (h1, .inr (1, gs))] := hD
  refine W.widen (k := 0) (n := 0) (Nat.le_of_ble_eq_true rfl) (Nat.le_of_ble_eq_true rfl) ?_
  refine zz_ci (y := 0) hw ?_
  refine lv_if_eq (tgt := 24) hx hb dX11_leans_10 (by decide) (fun c_2 => ?_) (fun c_2 => absurd c_2 (by decide))
  refine lv_iconst (v := (-1)) hx hb dX11_leans_24 (by decide) ?_
  refine W.widen (k := 0) (n := 0) (Nat.le_of_ble_eq_true rfl) (Nat.le_of_ble_eq_true rfl) ?_
  exact W.iret (v := (-1)) hx hb hr (fun t ht hW => ⟨⟨(-1), (), rfl, rfl, trivial⟩, hS.F ht⟩) hS.2.2 dX11_leans_25
def u_c_X11_quarrel : List Cond := .code yX11_quarrel cX11_quarrel 4 (some .int) :: ([.fieldLink RX11 39 "CakePapers" "desk" "LCakePapers$Desk;", .fieldLink RX11 251 "CakePapers$Desk" "joining" "LCakePapers$Joining;", .code yX4_hasQuarrel cX4_hasQuarrel 2 (some .boolean), .fieldLink RX4 48 "CakePapers$Joining" "quarrels" "I", .methodLink RX11 264 yX4_hasQuarrel, .instanceMethod yX4_hasQuarrel, .selects RX4 yX4_hasQuarrel yX4_hasQuarrel, .initialized RX4] ++ wsX110 ++ wsX10 ++ wsX40)
theorem iX11_c_X11_quarrel : ∀ w ∈ wsX110, w ∈ u_c_X11_quarrel := fun w h => List.mem_cons_of_mem _ (List.mem_append_left _ (List.mem_append_left _ (List.mem_append_right _ h)))
theorem iX1_c_X11_quarrel : ∀ w ∈ wsX10, w ∈ u_c_X11_quarrel := fun w h => List.mem_cons_of_mem _ (List.mem_append_left _ (List.mem_append_right _ h))
theorem iX4_c_X11_quarrel : ∀ w ∈ wsX40, w ∈ u_c_X11_quarrel := fun w h => List.mem_cons_of_mem _ (List.mem_append_right _ h)
set_option maxRecDepth 20000 in
theorem g_c_X11_quarrel_c_X4_hasQuarrel_0 : GoodIn u_c_X11_quarrel (wsV RX11 264 RX4 yX4_hasQuarrel u_c_X4_hasQuarrel) := goodIn_app (goodIn_of _ (by decide +kernel)) (goodIn_ca (goodIn_of (.code yX4_hasQuarrel cX4_hasQuarrel 2 (some .boolean) :: [.fieldLink RX4 48 "CakePapers$Joining" "quarrels" "I"]) (by decide +kernel)) (goodIn_sub iX4_c_X11_quarrel zgX4))
set_option maxHeartbeats 1000000 in
set_option maxRecDepth 100000 in
theorem c_X11_quarrel (l : Launch) (dC : Nat → ClassId) (dI : Nat → Nat → Nat) (sz : Nat) (h0 h1 h2 : Nat) (fs : List Value) (hn_fs : fs.length = 16) (e_fs_5 : fs[5]? = some (.ref h1)) (gs : List Value) (hn_gs : gs.length = 3) (e_gs_1 : gs[1]? = some (.ref h2)) (e_gs_2 : gs[2]? = some (.int 0)) (js : List Value) (hn_js : js.length = 13) (e_js_0 : js[0]? = some .null) (e_js_12 : js[12]? = some (.int 0)) (p0 : Int32) (p1 : Int32) : Met l yX11_quarrel u_c_X11_quarrel ({ frames := 1, cells := 0, slots := 0, locals := 21 }) (va_Pc [.ref h0, .int p0, .int p1] (fun U => U.heap.size = sz ∧ va_P (dC, dI) vwCl [(h0, .inr (11, fs)), (h1, .inr (1, gs)), (h2, .inr (4, js))] U.heap ∧ va_K (dC, dI) vwCl [] U ∧ va_D (fun _ => True) [(h0, .inr (11, fs)), (h1, .inr (1, gs)), (h2, .inr (4, js))])) (va_Qi (fun (r : Int32) (_ : Unit) => r = (-1)) (fun _ _ => True) (va_A [(h0, .inr (11, fs)), (h1, .inr (1, gs)), (h2, .inr (4, js))] sz)) 0 0 (va_A [(h0, .inr (11, fs)), (h1, .inr (1, gs)), (h2, .inr (4, js))] sz) := by
  refine Met.ofW (cc := cX11_quarrel) (maxL := 4) (ret := (some .int)) (by decide) rfl ?_
  intro p e s m args below meth c s₁ B hml hv
  obtain ⟨rfl, hsz, hP, hK, hD0⟩ := hv
  have hx := B.exec
  have hb := B.bytes
  have hr := B.returns
  have hts := atoms_spec (ws := u_c_X11_quarrel) B.pre
  have hown : s.vm.findClass RX11 = some m.cls := findClass_of_methodNamed B.named
  have hlocks := B.notSynchronized
  have hiX11 := iX11_c_X11_quarrel
  have hiX1 := iX1_c_X11_quarrel
  have hiX4 := iX4_c_X11_quarrel
  subst hsz
  have hD := hD0.self (sz := s.heap.size)
  generalize hAe : va_A [(h0, .inr (11, fs)), (h1, .inr (1, gs)), (h2, .inr (4, js))] s.heap.size = A at hD ⊢
  have hA : ∀ q : Nat, s.heap.size ≤ q → A q := fun q h => by rw [← hAe]; exact Or.inr h
  have hS : va_S A s.heap s.heap [] := va_S.rf
  obtain ⟨H, hH⟩ : ∃ H : Heap, H = s.heap := ⟨_, rfl⟩
  have hP : va_P (dC, dI) vwCl [(h0, .inr (11, fs)), (h1, .inr (1, gs)), (h2, .inr (4, js))] H := by rw [hH]; exact hP
  have hS : va_S A s.heap H [] := by rw [hH]; exact hS
  have hl := lv_entry ([.ref h0, .int p0, .int p1]) (n := 4) (Nat.le_of_ble_eq_true rfl)
  rw [lg_entry_eq]
  generalize (lg_sl ([.ref h0, .int p0, .int p1]) ++ List.replicate (4 - (lg_sl ([.ref h0, .int p0, .int p1])).length) Slot.unset).toArray = ls at hl ⊢
  have hl : lv_has ls 4 [(0, .ref h0), (1, .int p0), (2, .int p1)] := hl
  suffices h9 : W p l e (headSpec u_c_X11_quarrel _).room s m _ below meth c H [] 0 0 _ (F0 m 0 ls []) by rw [hH] at h9; exact h9
  refine lv_aload_n hx hb dX11_quarrel_0 rfl (lv_at hl 0 rfl) ?_
  refine va_get (D := (dC, dI)) (ci := 11) (v := .ref h1) (C := RX11) (T := TX11) (N := 16) hx hb hts hiX11 hown hK hP 0 rfl rfl 5 (by decide) (hts (.fieldLink RX11 39 "CakePapers" "desk" "LCakePapers$Desk;") (by decide +kernel)) (fun _ h9 => h9) e_fs_5 dX11_quarrel_1 ?_
  refine va_get (D := (dC, dI)) (ci := 1) (v := .ref h2) (C := RX1) (T := TX1) (N := 3) hx hb hts hiX1 hown hK hP 1 rfl rfl 1 (by decide) (hts (.fieldLink RX11 251 "CakePapers$Desk" "joining" "LCakePapers$Joining;") (by decide +kernel)) (fun _ h9 => h9) e_gs_1 dX11_quarrel_4 ?_
  refine lv_astore_n (lv' := [(3, .ref h2), (0, .ref h0), (1, .int p0), (2, .int p1)]) hx hb dX11_quarrel_7 rfl hl (by decide) rfl (fun ls hl => ?_)
  refine lv_aload_n hx hb dX11_quarrel_8 rfl (lv_at hl 0 rfl) ?_
  refine lv_iload_n hx hb dX11_quarrel_9 rfl (lv_at hl 2 rfl) ?_
  have hPc := hP.sub (ws' := [(h2, .inr (4, js))]) [2] rfl
  have hDc := hD.sub (ws' := [(h2, .inr (4, js))]) [2] (by decide) rfl
  have hKc := hK.sub (tys' := []) [] rfl
  have hFc := va_free (wc := [(h2, .inr (4, js))]) hD hS hA [2] rfl
  refine va_calli (va_runV (As := [.int p0]) (rest := []) ⟨hx, hb, hml, hown, hts⟩ (c_X4_hasQuarrel l dC dI H.size h2 js hn_js e_js_12 p0) (cwV 1 hts g_c_X11_quarrel_c_X4_hasQuarrel_0 rfl rfl rfl (by decide +kernel) ⟨Nat.le_of_ble_eq_true rfl, Nat.le_of_ble_eq_true rfl⟩) ⟨fun a U g mk q => by obtain ⟨q0, q1, qP, qK, qD⟩ := q; exact ⟨q0, q1, qP, va_K.moved (u := U) (U := U.calling g mk a) (Vm.Alike.refl U.vm) qK, qD⟩, va_recv hKc hPc (ci := 4) (q0 := 0) rfl rfl, fun U hU hW => ⟨rfl, by rw [hU], by rw [hU]; exact hPc, va_K.moved hW.alike hKc, hDc.weaken (fun _ _ _ _ => trivial)⟩⟩ rfl rfl hl.1 rfl (lv_room (Nat.le_of_ble_eq_true rfl)) dX11_quarrel_10 ⟨Nat.le_of_ble_eq_true rfl, Nat.le_of_ble_eq_true rfl⟩) hS (fun q _ h => hFc q h) hFc (fun r_1 u t H1 locs ht hvm hw hB hz1 hk1 hS => ?_)
  obtain ⟨hP1, hD1⟩ := hB
  rw [ht] at hP1
  obtain ⟨hP, hD⟩ := va_join (wr := [(h0, .inr (11, fs)), (h1, .inr (1, gs))]) (w1 := [(h2, .inr (4, js))]) hP hD [2] [0, 1] rfl rfl (by decide) (by decide) hk1 hFc hP1 hD1
  generalize H1 = H at hP hS ⊢
  have hP : va_P (dC, dI) vwCl [(h0, .inr (11, fs)), (h1, .inr (1, gs)), (h2, .inr (4, js))] H := hP
  have hD : va_D A [(h0, .inr (11, fs)), (h1, .inr (1, gs)), (h2, .inr (4, js))] := hD
  refine W.widen (k := 0) (n := 0) (Nat.le_of_ble_eq_true rfl) (Nat.le_of_ble_eq_true rfl) ?_
  refine zz_ci (y := 0) hw ?_
  refine lv_if_ne (tgt := 18) hx hb dX11_quarrel_13 (by decide) (fun c_2 => absurd c_2 (by decide)) (fun c_2 => ?_)
  refine lv_iconst (v := (-1)) hx hb dX11_quarrel_16 (by decide) ?_
  refine W.widen (k := 0) (n := 0) (Nat.le_of_ble_eq_true rfl) (Nat.le_of_ble_eq_true rfl) ?_
  exact W.iret (v := (-1)) hx hb hr (fun t ht hW => ⟨⟨(-1), (), rfl, rfl, trivial⟩, hS.F ht⟩) hS.2.2 dX11_quarrel_17
def u_c_X11_settle : List Cond := .code yX11_settle cX11_settle 3 (some .boolean) :: ([.fieldLink RX11 39 "CakePapers" "desk" "LCakePapers$Desk;", .fieldLink RX11 251 "CakePapers$Desk" "joining" "LCakePapers$Joining;", .code yX4_hasQuarrel cX4_hasQuarrel 2 (some .boolean), .fieldLink RX4 48 "CakePapers$Joining" "quarrels" "I", .methodLink RX11 264 yX4_hasQuarrel, .instanceMethod yX4_hasQuarrel, .selects RX4 yX4_hasQuarrel yX4_hasQuarrel, .initialized RX4] ++ wsX110 ++ wsX10 ++ wsX40)
theorem iX11_c_X11_settle : ∀ w ∈ wsX110, w ∈ u_c_X11_settle := fun w h => List.mem_cons_of_mem _ (List.mem_append_left _ (List.mem_append_left _ (List.mem_append_right _ h)))
theorem iX1_c_X11_settle : ∀ w ∈ wsX10, w ∈ u_c_X11_settle := fun w h => List.mem_cons_of_mem _ (List.mem_append_left _ (List.mem_append_right _ h))
theorem iX4_c_X11_settle : ∀ w ∈ wsX40, w ∈ u_c_X11_settle := fun w h => List.mem_cons_of_mem _ (List.mem_append_right _ h)
set_option maxRecDepth 20000 in
theorem g_c_X11_settle_c_X4_hasQuarrel_0 : GoodIn u_c_X11_settle (wsV RX11 264 RX4 yX4_hasQuarrel u_c_X4_hasQuarrel) := goodIn_app (goodIn_of _ (by decide +kernel)) (goodIn_ca (goodIn_of (.code yX4_hasQuarrel cX4_hasQuarrel 2 (some .boolean) :: [.fieldLink RX4 48 "CakePapers$Joining" "quarrels" "I"]) (by decide +kernel)) (goodIn_sub iX4_c_X11_settle zgX4))
set_option maxHeartbeats 1000000 in
set_option maxRecDepth 100000 in
theorem c_X11_settle (l : Launch) (dC : Nat → ClassId) (dI : Nat → Nat → Nat) (sz : Nat) (h0 h1 h2 : Nat) (fs : List Value) (hn_fs : fs.length = 16) (e_fs_5 : fs[5]? = some (.ref h1)) (gs : List Value) (hn_gs : gs.length = 3) (e_gs_1 : gs[1]? = some (.ref h2)) (e_gs_2 : gs[2]? = some (.int 0)) (js : List Value) (hn_js : js.length = 13) (e_js_0 : js[0]? = some .null) (e_js_12 : js[12]? = some (.int 0)) (p0 : Int32) (p1 : Int32) : Met l yX11_settle u_c_X11_settle ({ frames := 1, cells := 0, slots := 0, locals := 21 }) (va_Pc [.ref h0, .int p0, .int p1] (fun U => U.heap.size = sz ∧ va_P (dC, dI) vwCl [(h0, .inr (11, fs)), (h1, .inr (1, gs)), (h2, .inr (4, js))] U.heap ∧ va_K (dC, dI) vwCl [] U ∧ va_D (fun _ => True) [(h0, .inr (11, fs)), (h1, .inr (1, gs)), (h2, .inr (4, js))])) (va_Qi (fun (r : Int32) (_ : Unit) => r = 0) (fun _ _ => True) (va_A [(h0, .inr (11, fs)), (h1, .inr (1, gs)), (h2, .inr (4, js))] sz)) 0 0 (va_A [(h0, .inr (11, fs)), (h1, .inr (1, gs)), (h2, .inr (4, js))] sz) := by
  refine Met.ofW (cc := cX11_settle) (maxL := 3) (ret := (some .boolean)) (by decide) rfl ?_
  intro p e s m args below meth c s₁ B hml hv
  obtain ⟨rfl, hsz, hP, hK, hD0⟩ := hv
  have hx := B.exec
  have hb := B.bytes
  have hr := B.returns
  have hts := atoms_spec (ws := u_c_X11_settle) B.pre
  have hown : s.vm.findClass RX11 = some m.cls := findClass_of_methodNamed B.named
  have hlocks := B.notSynchronized
  have hiX11 := iX11_c_X11_settle
  have hiX1 := iX1_c_X11_settle
  have hiX4 := iX4_c_X11_settle
  subst hsz
  have hD := hD0.self (sz := s.heap.size)
  generalize hAe : va_A [(h0, .inr (11, fs)), (h1, .inr (1, gs)), (h2, .inr (4, js))] s.heap.size = A at hD ⊢
  have hA : ∀ q : Nat, s.heap.size ≤ q → A q := fun q h => by rw [← hAe]; exact Or.inr h
  have hS : va_S A s.heap s.heap [] := va_S.rf
  obtain ⟨H, hH⟩ : ∃ H : Heap, H = s.heap := ⟨_, rfl⟩
  have hP : va_P (dC, dI) vwCl [(h0, .inr (11, fs)), (h1, .inr (1, gs)), (h2, .inr (4, js))] H := by rw [hH]; exact hP
  have hS : va_S A s.heap H [] := by rw [hH]; exact hS
  have hl := lv_entry ([.ref h0, .int p0, .int p1]) (n := 3) (Nat.le_of_ble_eq_true rfl)
  rw [lg_entry_eq]
  generalize (lg_sl ([.ref h0, .int p0, .int p1]) ++ List.replicate (3 - (lg_sl ([.ref h0, .int p0, .int p1])).length) Slot.unset).toArray = ls at hl ⊢
  have hl : lv_has ls 3 [(0, .ref h0), (1, .int p0), (2, .int p1)] := hl
  suffices h9 : W p l e (headSpec u_c_X11_settle _).room s m _ below meth c H [] 0 0 _ (F0 m 0 ls []) by rw [hH] at h9; exact h9
  refine lv_aload_n hx hb dX11_settle_0 rfl (lv_at hl 0 rfl) ?_
  refine va_get (D := (dC, dI)) (ci := 11) (v := .ref h1) (C := RX11) (T := TX11) (N := 16) hx hb hts hiX11 hown hK hP 0 rfl rfl 5 (by decide) (hts (.fieldLink RX11 39 "CakePapers" "desk" "LCakePapers$Desk;") (by decide +kernel)) (fun _ h9 => h9) e_fs_5 dX11_settle_1 ?_
  refine va_get (D := (dC, dI)) (ci := 1) (v := .ref h2) (C := RX1) (T := TX1) (N := 3) hx hb hts hiX1 hown hK hP 1 rfl rfl 1 (by decide) (hts (.fieldLink RX11 251 "CakePapers$Desk" "joining" "LCakePapers$Joining;") (by decide +kernel)) (fun _ h9 => h9) e_gs_1 dX11_settle_4 ?_
  refine lv_iload_n hx hb dX11_settle_7 rfl (lv_at hl 1 rfl) ?_
  have hPc := hP.sub (ws' := [(h2, .inr (4, js))]) [2] rfl
  have hDc := hD.sub (ws' := [(h2, .inr (4, js))]) [2] (by decide) rfl
  have hKc := hK.sub (tys' := []) [] rfl
  have hFc := va_free (wc := [(h2, .inr (4, js))]) hD hS hA [2] rfl
  refine va_calli (va_runV (As := [.int p0]) (rest := []) ⟨hx, hb, hml, hown, hts⟩ (c_X4_hasQuarrel l dC dI H.size h2 js hn_js e_js_12 p0) (cwV 1 hts g_c_X11_settle_c_X4_hasQuarrel_0 rfl rfl rfl (by decide +kernel) ⟨Nat.le_of_ble_eq_true rfl, Nat.le_of_ble_eq_true rfl⟩) ⟨fun a U g mk q => by obtain ⟨q0, q1, qP, qK, qD⟩ := q; exact ⟨q0, q1, qP, va_K.moved (u := U) (U := U.calling g mk a) (Vm.Alike.refl U.vm) qK, qD⟩, va_recv hKc hPc (ci := 4) (q0 := 0) rfl rfl, fun U hU hW => ⟨rfl, by rw [hU], by rw [hU]; exact hPc, va_K.moved hW.alike hKc, hDc.weaken (fun _ _ _ _ => trivial)⟩⟩ rfl rfl hl.1 rfl (lv_room (Nat.le_of_ble_eq_true rfl)) dX11_settle_8 ⟨Nat.le_of_ble_eq_true rfl, Nat.le_of_ble_eq_true rfl⟩) hS (fun q _ h => hFc q h) hFc (fun r_1 u t H1 locs ht hvm hw hB hz1 hk1 hS => ?_)
  obtain ⟨hP1, hD1⟩ := hB
  rw [ht] at hP1
  obtain ⟨hP, hD⟩ := va_join (wr := [(h0, .inr (11, fs)), (h1, .inr (1, gs))]) (w1 := [(h2, .inr (4, js))]) hP hD [2] [0, 1] rfl rfl (by decide) (by decide) hk1 hFc hP1 hD1
  generalize H1 = H at hP hS ⊢
  have hP : va_P (dC, dI) vwCl [(h0, .inr (11, fs)), (h1, .inr (1, gs)), (h2, .inr (4, js))] H := hP
  have hD : va_D A [(h0, .inr (11, fs)), (h1, .inr (1, gs)), (h2, .inr (4, js))] := hD
  refine W.widen (k := 0) (n := 0) (Nat.le_of_ble_eq_true rfl) (Nat.le_of_ble_eq_true rfl) ?_
  refine zz_ci (y := 0) hw ?_
  refine lv_if_eq (tgt := 23) hx hb dX11_settle_11 (by decide) (fun c_2 => ?_) (fun c_2 => absurd c_2 (by decide))
  refine lv_iconst (v := 0) hx hb dX11_settle_23 (by decide) ?_
  refine W.widen (k := 0) (n := 0) (Nat.le_of_ble_eq_true rfl) (Nat.le_of_ble_eq_true rfl) ?_
  exact W.zret (v := 0) hx hb hr (rfl) (fun t ht hW => ⟨⟨0, (), rfl, rfl, trivial⟩, hS.F ht⟩) hS.2.2 dX11_settle_24
def u_c_X11_joined : List Cond := .code yX11_joined cX11_joined 2 (some .int) :: ([.fieldLink RX11 39 "CakePapers" "desk" "LCakePapers$Desk;", .fieldLink RX11 251 "CakePapers$Desk" "joining" "LCakePapers$Joining;", .code yX4_isThere cX4_isThere 1 (some .boolean), .fieldLink RX4 38 "CakePapers$Joining" "base" "LCakePapers$Paper;", .methodLink RX11 280 yX4_isThere, .instanceMethod yX4_isThere, .selects RX4 yX4_isThere yX4_isThere, .initialized RX4] ++ wsX110 ++ wsX10 ++ wsX40)
theorem iX11_c_X11_joined : ∀ w ∈ wsX110, w ∈ u_c_X11_joined := fun w h => List.mem_cons_of_mem _ (List.mem_append_left _ (List.mem_append_left _ (List.mem_append_right _ h)))
theorem iX1_c_X11_joined : ∀ w ∈ wsX10, w ∈ u_c_X11_joined := fun w h => List.mem_cons_of_mem _ (List.mem_append_left _ (List.mem_append_right _ h))
theorem iX4_c_X11_joined : ∀ w ∈ wsX40, w ∈ u_c_X11_joined := fun w h => List.mem_cons_of_mem _ (List.mem_append_right _ h)
set_option maxRecDepth 20000 in
theorem g_c_X11_joined_c_X4_isThere_0 : GoodIn u_c_X11_joined (wsV RX11 280 RX4 yX4_isThere u_c_X4_isThere) := goodIn_app (goodIn_of _ (by decide +kernel)) (goodIn_ca (goodIn_of (.code yX4_isThere cX4_isThere 1 (some .boolean) :: [.fieldLink RX4 38 "CakePapers$Joining" "base" "LCakePapers$Paper;"]) (by decide +kernel)) (goodIn_sub iX4_c_X11_joined zgX4))
set_option maxHeartbeats 1000000 in
set_option maxRecDepth 100000 in
theorem c_X11_joined (l : Launch) (dC : Nat → ClassId) (dI : Nat → Nat → Nat) (sz : Nat) (h0 h1 h2 : Nat) (fs : List Value) (hn_fs : fs.length = 16) (e_fs_5 : fs[5]? = some (.ref h1)) (gs : List Value) (hn_gs : gs.length = 3) (e_gs_1 : gs[1]? = some (.ref h2)) (e_gs_2 : gs[2]? = some (.int 0)) (js : List Value) (hn_js : js.length = 13) (e_js_0 : js[0]? = some .null) (e_js_12 : js[12]? = some (.int 0)) : Met l yX11_joined u_c_X11_joined ({ frames := 1, cells := 0, slots := 0, locals := 20 }) (va_Pc [.ref h0] (fun U => U.heap.size = sz ∧ va_P (dC, dI) vwCl [(h0, .inr (11, fs)), (h1, .inr (1, gs)), (h2, .inr (4, js))] U.heap ∧ va_K (dC, dI) vwCl [] U ∧ va_D (fun _ => True) [(h0, .inr (11, fs)), (h1, .inr (1, gs)), (h2, .inr (4, js))])) (va_Qi (fun (r : Int32) (_ : Unit) => r = (-1)) (fun _ _ => True) (va_A [(h0, .inr (11, fs)), (h1, .inr (1, gs)), (h2, .inr (4, js))] sz)) 0 0 (va_A [(h0, .inr (11, fs)), (h1, .inr (1, gs)), (h2, .inr (4, js))] sz) := by
  refine Met.ofW (cc := cX11_joined) (maxL := 2) (ret := (some .int)) (by decide) rfl ?_
  intro p e s m args below meth c s₁ B hml hv
  obtain ⟨rfl, hsz, hP, hK, hD0⟩ := hv
  have hx := B.exec
  have hb := B.bytes
  have hr := B.returns
  have hts := atoms_spec (ws := u_c_X11_joined) B.pre
  have hown : s.vm.findClass RX11 = some m.cls := findClass_of_methodNamed B.named
  have hlocks := B.notSynchronized
  have hiX11 := iX11_c_X11_joined
  have hiX1 := iX1_c_X11_joined
  have hiX4 := iX4_c_X11_joined
  subst hsz
  have hD := hD0.self (sz := s.heap.size)
  generalize hAe : va_A [(h0, .inr (11, fs)), (h1, .inr (1, gs)), (h2, .inr (4, js))] s.heap.size = A at hD ⊢
  have hA : ∀ q : Nat, s.heap.size ≤ q → A q := fun q h => by rw [← hAe]; exact Or.inr h
  have hS : va_S A s.heap s.heap [] := va_S.rf
  obtain ⟨H, hH⟩ : ∃ H : Heap, H = s.heap := ⟨_, rfl⟩
  have hP : va_P (dC, dI) vwCl [(h0, .inr (11, fs)), (h1, .inr (1, gs)), (h2, .inr (4, js))] H := by rw [hH]; exact hP
  have hS : va_S A s.heap H [] := by rw [hH]; exact hS
  have hl := lv_entry ([.ref h0]) (n := 2) (Nat.le_of_ble_eq_true rfl)
  rw [lg_entry_eq]
  generalize (lg_sl ([.ref h0]) ++ List.replicate (2 - (lg_sl ([.ref h0])).length) Slot.unset).toArray = ls at hl ⊢
  have hl : lv_has ls 2 [(0, .ref h0)] := hl
  suffices h9 : W p l e (headSpec u_c_X11_joined _).room s m _ below meth c H [] 0 0 _ (F0 m 0 ls []) by rw [hH] at h9; exact h9
  refine lv_aload_n hx hb dX11_joined_0 rfl (lv_at hl 0 rfl) ?_
  refine va_get (D := (dC, dI)) (ci := 11) (v := .ref h1) (C := RX11) (T := TX11) (N := 16) hx hb hts hiX11 hown hK hP 0 rfl rfl 5 (by decide) (hts (.fieldLink RX11 39 "CakePapers" "desk" "LCakePapers$Desk;") (by decide +kernel)) (fun _ h9 => h9) e_fs_5 dX11_joined_1 ?_
  refine va_get (D := (dC, dI)) (ci := 1) (v := .ref h2) (C := RX1) (T := TX1) (N := 3) hx hb hts hiX1 hown hK hP 1 rfl rfl 1 (by decide) (hts (.fieldLink RX11 251 "CakePapers$Desk" "joining" "LCakePapers$Joining;") (by decide +kernel)) (fun _ h9 => h9) e_gs_1 dX11_joined_4 ?_
  refine lv_astore_n (lv' := [(1, .ref h2), (0, .ref h0)]) hx hb dX11_joined_7 rfl hl (by decide) rfl (fun ls hl => ?_)
  refine lv_aload_n hx hb dX11_joined_8 rfl (lv_at hl 0 rfl) ?_
  have hPc := hP.sub (ws' := [(h2, .inr (4, js))]) [2] rfl
  have hDc := hD.sub (ws' := [(h2, .inr (4, js))]) [2] (by decide) rfl
  have hKc := hK.sub (tys' := []) [] rfl
  have hFc := va_free (wc := [(h2, .inr (4, js))]) hD hS hA [2] rfl
  refine va_calli (va_runV (As := []) (rest := []) ⟨hx, hb, hml, hown, hts⟩ (c_X4_isThere l dC dI H.size h2 js hn_js e_js_0) (cwV 0 hts g_c_X11_joined_c_X4_isThere_0 rfl rfl rfl (by decide +kernel) ⟨Nat.le_of_ble_eq_true rfl, Nat.le_of_ble_eq_true rfl⟩) ⟨fun a U g mk q => by obtain ⟨q0, q1, qP, qK, qD⟩ := q; exact ⟨q0, q1, qP, va_K.moved (u := U) (U := U.calling g mk a) (Vm.Alike.refl U.vm) qK, qD⟩, va_recv hKc hPc (ci := 4) (q0 := 0) rfl rfl, fun U hU hW => ⟨rfl, by rw [hU], by rw [hU]; exact hPc, va_K.moved hW.alike hKc, hDc.weaken (fun _ _ _ _ => trivial)⟩⟩ rfl rfl hl.1 rfl (lv_room (Nat.le_of_ble_eq_true rfl)) dX11_joined_9 ⟨Nat.le_of_ble_eq_true rfl, Nat.le_of_ble_eq_true rfl⟩) hS (fun q _ h => hFc q h) hFc (fun r_1 u t H1 locs ht hvm hw hB hz1 hk1 hS => ?_)
  obtain ⟨hP1, hD1⟩ := hB
  rw [ht] at hP1
  obtain ⟨hP, hD⟩ := va_join (wr := [(h0, .inr (11, fs)), (h1, .inr (1, gs))]) (w1 := [(h2, .inr (4, js))]) hP hD [2] [0, 1] rfl rfl (by decide) (by decide) hk1 hFc hP1 hD1
  generalize H1 = H at hP hS ⊢
  have hP : va_P (dC, dI) vwCl [(h0, .inr (11, fs)), (h1, .inr (1, gs)), (h2, .inr (4, js))] H := hP
  have hD : va_D A [(h0, .inr (11, fs)), (h1, .inr (1, gs)), (h2, .inr (4, js))] := hD
  refine W.widen (k := 0) (n := 0) (Nat.le_of_ble_eq_true rfl) (Nat.le_of_ble_eq_true rfl) ?_
  refine zz_ci (y := 0) hw ?_
  refine lv_if_eq (tgt := 25) hx hb dX11_joined_12 (by decide) (fun c_2 => ?_) (fun c_2 => absurd c_2 (by decide))
  refine lv_iconst (v := (-1)) hx hb dX11_joined_25 (by decide) ?_
  refine W.widen (k := 0) (n := 0) (Nat.le_of_ble_eq_true rfl) (Nat.le_of_ble_eq_true rfl) ?_
  exact W.iret (v := (-1)) hx hb hr (fun t ht hW => ⟨⟨(-1), (), rfl, rfl, trivial⟩, hS.F ht⟩) hS.2.2 dX11_joined_26
def u_c_X11_best : List Cond := .code yX11_best cX11_best 3 (some .int) :: ([.fieldLink RX11 39 "CakePapers" "desk" "LCakePapers$Desk;", .fieldLink RX11 251 "CakePapers$Desk" "joining" "LCakePapers$Joining;", .code yX4_isThere cX4_isThere 1 (some .boolean), .fieldLink RX4 38 "CakePapers$Joining" "base" "LCakePapers$Paper;", .methodLink RX11 280 yX4_isThere, .instanceMethod yX4_isThere, .selects RX4 yX4_isThere yX4_isThere, .initialized RX4, .constant RX11 224 (-1000000)] ++ wsX110 ++ wsX10 ++ wsX40)
theorem iX11_c_X11_best : ∀ w ∈ wsX110, w ∈ u_c_X11_best := fun w h => List.mem_cons_of_mem _ (List.mem_append_left _ (List.mem_append_left _ (List.mem_append_right _ h)))
theorem iX1_c_X11_best : ∀ w ∈ wsX10, w ∈ u_c_X11_best := fun w h => List.mem_cons_of_mem _ (List.mem_append_left _ (List.mem_append_right _ h))
theorem iX4_c_X11_best : ∀ w ∈ wsX40, w ∈ u_c_X11_best := fun w h => List.mem_cons_of_mem _ (List.mem_append_right _ h)
set_option maxRecDepth 20000 in
theorem g_c_X11_best_c_X4_isThere_0 : GoodIn u_c_X11_best (wsV RX11 280 RX4 yX4_isThere u_c_X4_isThere) := goodIn_app (goodIn_of _ (by decide +kernel)) (goodIn_ca (goodIn_of (.code yX4_isThere cX4_isThere 1 (some .boolean) :: [.fieldLink RX4 38 "CakePapers$Joining" "base" "LCakePapers$Paper;"]) (by decide +kernel)) (goodIn_sub iX4_c_X11_best zgX4))
set_option maxHeartbeats 1000000 in
set_option maxRecDepth 100000 in
theorem c_X11_best (l : Launch) (dC : Nat → ClassId) (dI : Nat → Nat → Nat) (sz : Nat) (h0 h1 h2 : Nat) (fs : List Value) (hn_fs : fs.length = 16) (e_fs_5 : fs[5]? = some (.ref h1)) (gs : List Value) (hn_gs : gs.length = 3) (e_gs_1 : gs[1]? = some (.ref h2)) (e_gs_2 : gs[2]? = some (.int 0)) (js : List Value) (hn_js : js.length = 13) (e_js_0 : js[0]? = some .null) (e_js_12 : js[12]? = some (.int 0)) (p0 : Int32) : Met l yX11_best u_c_X11_best ({ frames := 1, cells := 0, slots := 0, locals := 20 }) (va_Pc [.ref h0, .int p0] (fun U => U.heap.size = sz ∧ va_P (dC, dI) vwCl [(h0, .inr (11, fs)), (h1, .inr (1, gs)), (h2, .inr (4, js))] U.heap ∧ va_K (dC, dI) vwCl [] U ∧ va_D (fun _ => True) [(h0, .inr (11, fs)), (h1, .inr (1, gs)), (h2, .inr (4, js))])) (va_Qi (fun (r : Int32) (_ : Unit) => r = (-1000000)) (fun _ _ => True) (va_A [(h0, .inr (11, fs)), (h1, .inr (1, gs)), (h2, .inr (4, js))] sz)) 0 0 (va_A [(h0, .inr (11, fs)), (h1, .inr (1, gs)), (h2, .inr (4, js))] sz) := by
  refine Met.ofW (cc := cX11_best) (maxL := 3) (ret := (some .int)) (by decide) rfl ?_
  intro p e s m args below meth c s₁ B hml hv
  obtain ⟨rfl, hsz, hP, hK, hD0⟩ := hv
  have hx := B.exec
  have hb := B.bytes
  have hr := B.returns
  have hts := atoms_spec (ws := u_c_X11_best) B.pre
  have hown : s.vm.findClass RX11 = some m.cls := findClass_of_methodNamed B.named
  have hlocks := B.notSynchronized
  have hiX11 := iX11_c_X11_best
  have hiX1 := iX1_c_X11_best
  have hiX4 := iX4_c_X11_best
  subst hsz
  have hD := hD0.self (sz := s.heap.size)
  generalize hAe : va_A [(h0, .inr (11, fs)), (h1, .inr (1, gs)), (h2, .inr (4, js))] s.heap.size = A at hD ⊢
  have hA : ∀ q : Nat, s.heap.size ≤ q → A q := fun q h => by rw [← hAe]; exact Or.inr h
  have hS : va_S A s.heap s.heap [] := va_S.rf
  obtain ⟨H, hH⟩ : ∃ H : Heap, H = s.heap := ⟨_, rfl⟩
  have hP : va_P (dC, dI) vwCl [(h0, .inr (11, fs)), (h1, .inr (1, gs)), (h2, .inr (4, js))] H := by rw [hH]; exact hP
  have hS : va_S A s.heap H [] := by rw [hH]; exact hS
  have hl := lv_entry ([.ref h0, .int p0]) (n := 3) (Nat.le_of_ble_eq_true rfl)
  rw [lg_entry_eq]
  generalize (lg_sl ([.ref h0, .int p0]) ++ List.replicate (3 - (lg_sl ([.ref h0, .int p0])).length) Slot.unset).toArray = ls at hl ⊢
  have hl : lv_has ls 3 [(0, .ref h0), (1, .int p0)] := hl
  suffices h9 : W p l e (headSpec u_c_X11_best _).room s m _ below meth c H [] 0 0 _ (F0 m 0 ls []) by rw [hH] at h9; exact h9
  refine lv_aload_n hx hb dX11_best_0 rfl (lv_at hl 0 rfl) ?_
  refine va_get (D := (dC, dI)) (ci := 11) (v := .ref h1) (C := RX11) (T := TX11) (N := 16) hx hb hts hiX11 hown hK hP 0 rfl rfl 5 (by decide) (hts (.fieldLink RX11 39 "CakePapers" "desk" "LCakePapers$Desk;") (by decide +kernel)) (fun _ h9 => h9) e_fs_5 dX11_best_1 ?_
  refine va_get (D := (dC, dI)) (ci := 1) (v := .ref h2) (C := RX1) (T := TX1) (N := 3) hx hb hts hiX1 hown hK hP 1 rfl rfl 1 (by decide) (hts (.fieldLink RX11 251 "CakePapers$Desk" "joining" "LCakePapers$Joining;") (by decide +kernel)) (fun _ h9 => h9) e_gs_1 dX11_best_4 ?_
  refine lv_astore_n (lv' := [(2, .ref h2), (0, .ref h0), (1, .int p0)]) hx hb dX11_best_7 rfl hl (by decide) rfl (fun ls hl => ?_)
  refine lv_aload_n hx hb dX11_best_8 rfl (lv_at hl 0 rfl) ?_
  have hPc := hP.sub (ws' := [(h2, .inr (4, js))]) [2] rfl
  have hDc := hD.sub (ws' := [(h2, .inr (4, js))]) [2] (by decide) rfl
  have hKc := hK.sub (tys' := []) [] rfl
  have hFc := va_free (wc := [(h2, .inr (4, js))]) hD hS hA [2] rfl
  refine va_calli (va_runV (As := []) (rest := []) ⟨hx, hb, hml, hown, hts⟩ (c_X4_isThere l dC dI H.size h2 js hn_js e_js_0) (cwV 0 hts g_c_X11_best_c_X4_isThere_0 rfl rfl rfl (by decide +kernel) ⟨Nat.le_of_ble_eq_true rfl, Nat.le_of_ble_eq_true rfl⟩) ⟨fun a U g mk q => by obtain ⟨q0, q1, qP, qK, qD⟩ := q; exact ⟨q0, q1, qP, va_K.moved (u := U) (U := U.calling g mk a) (Vm.Alike.refl U.vm) qK, qD⟩, va_recv hKc hPc (ci := 4) (q0 := 0) rfl rfl, fun U hU hW => ⟨rfl, by rw [hU], by rw [hU]; exact hPc, va_K.moved hW.alike hKc, hDc.weaken (fun _ _ _ _ => trivial)⟩⟩ rfl rfl hl.1 rfl (lv_room (Nat.le_of_ble_eq_true rfl)) dX11_best_9 ⟨Nat.le_of_ble_eq_true rfl, Nat.le_of_ble_eq_true rfl⟩) hS (fun q _ h => hFc q h) hFc (fun r_1 u t H1 locs ht hvm hw hB hz1 hk1 hS => ?_)
  obtain ⟨hP1, hD1⟩ := hB
  rw [ht] at hP1
  obtain ⟨hP, hD⟩ := va_join (wr := [(h0, .inr (11, fs)), (h1, .inr (1, gs))]) (w1 := [(h2, .inr (4, js))]) hP hD [2] [0, 1] rfl rfl (by decide) (by decide) hk1 hFc hP1 hD1
  generalize H1 = H at hP hS ⊢
  have hP : va_P (dC, dI) vwCl [(h0, .inr (11, fs)), (h1, .inr (1, gs)), (h2, .inr (4, js))] H := hP
  have hD : va_D A [(h0, .inr (11, fs)), (h1, .inr (1, gs)), (h2, .inr (4, js))] := hD
  refine W.widen (k := 0) (n := 0) (Nat.le_of_ble_eq_true rfl) (Nat.le_of_ble_eq_true rfl) ?_
  refine zz_ci (y := 0) hw ?_
  refine lv_if_ne (tgt := 18) hx hb dX11_best_12 (by decide) (fun c_2 => absurd c_2 (by decide)) (fun c_2 => ?_)
  refine lv_ldc (v := (-1000000)) hx hb hown (hts (.constant RX11 224 (-1000000)) (by decide +kernel)) dX11_best_15 ?_
  refine W.widen (k := 0) (n := 0) (Nat.le_of_ble_eq_true rfl) (Nat.le_of_ble_eq_true rfl) ?_
  exact W.iret (v := (-1000000)) hx hb hr (fun t ht hW => ⟨⟨(-1000000), (), rfl, rfl, trivial⟩, hS.F ht⟩) hS.2.2 dX11_best_17
def u_c_X11_left : List Cond := .code yX11_left cX11_left 3 (some .int) :: ([.fieldLink RX11 39 "CakePapers" "desk" "LCakePapers$Desk;", .fieldLink RX11 251 "CakePapers$Desk" "joining" "LCakePapers$Joining;", .code yX4_isThere cX4_isThere 1 (some .boolean), .fieldLink RX4 38 "CakePapers$Joining" "base" "LCakePapers$Paper;", .methodLink RX11 280 yX4_isThere, .instanceMethod yX4_isThere, .selects RX4 yX4_isThere yX4_isThere, .initialized RX4] ++ wsX110 ++ wsX10 ++ wsX40)
theorem iX11_c_X11_left : ∀ w ∈ wsX110, w ∈ u_c_X11_left := fun w h => List.mem_cons_of_mem _ (List.mem_append_left _ (List.mem_append_left _ (List.mem_append_right _ h)))
theorem iX1_c_X11_left : ∀ w ∈ wsX10, w ∈ u_c_X11_left := fun w h => List.mem_cons_of_mem _ (List.mem_append_left _ (List.mem_append_right _ h))
theorem iX4_c_X11_left : ∀ w ∈ wsX40, w ∈ u_c_X11_left := fun w h => List.mem_cons_of_mem _ (List.mem_append_right _ h)
set_option maxRecDepth 20000 in
theorem g_c_X11_left_c_X4_isThere_0 : GoodIn u_c_X11_left (wsV RX11 280 RX4 yX4_isThere u_c_X4_isThere) := goodIn_app (goodIn_of _ (by decide +kernel)) (goodIn_ca (goodIn_of (.code yX4_isThere cX4_isThere 1 (some .boolean) :: [.fieldLink RX4 38 "CakePapers$Joining" "base" "LCakePapers$Paper;"]) (by decide +kernel)) (goodIn_sub iX4_c_X11_left zgX4))
set_option maxHeartbeats 1000000 in
set_option maxRecDepth 100000 in
theorem c_X11_left (l : Launch) (dC : Nat → ClassId) (dI : Nat → Nat → Nat) (sz : Nat) (h0 h1 h2 : Nat) (fs : List Value) (hn_fs : fs.length = 16) (e_fs_5 : fs[5]? = some (.ref h1)) (gs : List Value) (hn_gs : gs.length = 3) (e_gs_1 : gs[1]? = some (.ref h2)) (e_gs_2 : gs[2]? = some (.int 0)) (js : List Value) (hn_js : js.length = 13) (e_js_0 : js[0]? = some .null) (e_js_12 : js[12]? = some (.int 0)) (p0 : Int32) : Met l yX11_left u_c_X11_left ({ frames := 1, cells := 0, slots := 0, locals := 20 }) (va_Pc [.ref h0, .int p0] (fun U => U.heap.size = sz ∧ va_P (dC, dI) vwCl [(h0, .inr (11, fs)), (h1, .inr (1, gs)), (h2, .inr (4, js))] U.heap ∧ va_K (dC, dI) vwCl [] U ∧ va_D (fun _ => True) [(h0, .inr (11, fs)), (h1, .inr (1, gs)), (h2, .inr (4, js))])) (va_Qi (fun (r : Int32) (_ : Unit) => r = (-1)) (fun _ _ => True) (va_A [(h0, .inr (11, fs)), (h1, .inr (1, gs)), (h2, .inr (4, js))] sz)) 0 0 (va_A [(h0, .inr (11, fs)), (h1, .inr (1, gs)), (h2, .inr (4, js))] sz) := by
  refine Met.ofW (cc := cX11_left) (maxL := 3) (ret := (some .int)) (by decide) rfl ?_
  intro p e s m args below meth c s₁ B hml hv
  obtain ⟨rfl, hsz, hP, hK, hD0⟩ := hv
  have hx := B.exec
  have hb := B.bytes
  have hr := B.returns
  have hts := atoms_spec (ws := u_c_X11_left) B.pre
  have hown : s.vm.findClass RX11 = some m.cls := findClass_of_methodNamed B.named
  have hlocks := B.notSynchronized
  have hiX11 := iX11_c_X11_left
  have hiX1 := iX1_c_X11_left
  have hiX4 := iX4_c_X11_left
  subst hsz
  have hD := hD0.self (sz := s.heap.size)
  generalize hAe : va_A [(h0, .inr (11, fs)), (h1, .inr (1, gs)), (h2, .inr (4, js))] s.heap.size = A at hD ⊢
  have hA : ∀ q : Nat, s.heap.size ≤ q → A q := fun q h => by rw [← hAe]; exact Or.inr h
  have hS : va_S A s.heap s.heap [] := va_S.rf
  obtain ⟨H, hH⟩ : ∃ H : Heap, H = s.heap := ⟨_, rfl⟩
  have hP : va_P (dC, dI) vwCl [(h0, .inr (11, fs)), (h1, .inr (1, gs)), (h2, .inr (4, js))] H := by rw [hH]; exact hP
  have hS : va_S A s.heap H [] := by rw [hH]; exact hS
  have hl := lv_entry ([.ref h0, .int p0]) (n := 3) (Nat.le_of_ble_eq_true rfl)
  rw [lg_entry_eq]
  generalize (lg_sl ([.ref h0, .int p0]) ++ List.replicate (3 - (lg_sl ([.ref h0, .int p0])).length) Slot.unset).toArray = ls at hl ⊢
  have hl : lv_has ls 3 [(0, .ref h0), (1, .int p0)] := hl
  suffices h9 : W p l e (headSpec u_c_X11_left _).room s m _ below meth c H [] 0 0 _ (F0 m 0 ls []) by rw [hH] at h9; exact h9
  refine lv_aload_n hx hb dX11_left_0 rfl (lv_at hl 0 rfl) ?_
  refine va_get (D := (dC, dI)) (ci := 11) (v := .ref h1) (C := RX11) (T := TX11) (N := 16) hx hb hts hiX11 hown hK hP 0 rfl rfl 5 (by decide) (hts (.fieldLink RX11 39 "CakePapers" "desk" "LCakePapers$Desk;") (by decide +kernel)) (fun _ h9 => h9) e_fs_5 dX11_left_1 ?_
  refine va_get (D := (dC, dI)) (ci := 1) (v := .ref h2) (C := RX1) (T := TX1) (N := 3) hx hb hts hiX1 hown hK hP 1 rfl rfl 1 (by decide) (hts (.fieldLink RX11 251 "CakePapers$Desk" "joining" "LCakePapers$Joining;") (by decide +kernel)) (fun _ h9 => h9) e_gs_1 dX11_left_4 ?_
  refine lv_astore_n (lv' := [(2, .ref h2), (0, .ref h0), (1, .int p0)]) hx hb dX11_left_7 rfl hl (by decide) rfl (fun ls hl => ?_)
  refine lv_aload_n hx hb dX11_left_8 rfl (lv_at hl 0 rfl) ?_
  have hPc := hP.sub (ws' := [(h2, .inr (4, js))]) [2] rfl
  have hDc := hD.sub (ws' := [(h2, .inr (4, js))]) [2] (by decide) rfl
  have hKc := hK.sub (tys' := []) [] rfl
  have hFc := va_free (wc := [(h2, .inr (4, js))]) hD hS hA [2] rfl
  refine va_calli (va_runV (As := []) (rest := []) ⟨hx, hb, hml, hown, hts⟩ (c_X4_isThere l dC dI H.size h2 js hn_js e_js_0) (cwV 0 hts g_c_X11_left_c_X4_isThere_0 rfl rfl rfl (by decide +kernel) ⟨Nat.le_of_ble_eq_true rfl, Nat.le_of_ble_eq_true rfl⟩) ⟨fun a U g mk q => by obtain ⟨q0, q1, qP, qK, qD⟩ := q; exact ⟨q0, q1, qP, va_K.moved (u := U) (U := U.calling g mk a) (Vm.Alike.refl U.vm) qK, qD⟩, va_recv hKc hPc (ci := 4) (q0 := 0) rfl rfl, fun U hU hW => ⟨rfl, by rw [hU], by rw [hU]; exact hPc, va_K.moved hW.alike hKc, hDc.weaken (fun _ _ _ _ => trivial)⟩⟩ rfl rfl hl.1 rfl (lv_room (Nat.le_of_ble_eq_true rfl)) dX11_left_9 ⟨Nat.le_of_ble_eq_true rfl, Nat.le_of_ble_eq_true rfl⟩) hS (fun q _ h => hFc q h) hFc (fun r_1 u t H1 locs ht hvm hw hB hz1 hk1 hS => ?_)
  obtain ⟨hP1, hD1⟩ := hB
  rw [ht] at hP1
  obtain ⟨hP, hD⟩ := va_join (wr := [(h0, .inr (11, fs)), (h1, .inr (1, gs))]) (w1 := [(h2, .inr (4, js))]) hP hD [2] [0, 1] rfl rfl (by decide) (by decide) hk1 hFc hP1 hD1
  generalize H1 = H at hP hS ⊢
  have hP : va_P (dC, dI) vwCl [(h0, .inr (11, fs)), (h1, .inr (1, gs)), (h2, .inr (4, js))] H := hP
  have hD : va_D A [(h0, .inr (11, fs)), (h1, .inr (1, gs)), (h2, .inr (4, js))] := hD
  refine W.widen (k := 0) (n := 0) (Nat.le_of_ble_eq_true rfl) (Nat.le_of_ble_eq_true rfl) ?_
  refine zz_ci (y := 0) hw ?_
  refine lv_if_ne (tgt := 17) hx hb dX11_left_12 (by decide) (fun c_2 => absurd c_2 (by decide)) (fun c_2 => ?_)
  refine lv_iconst (v := (-1)) hx hb dX11_left_15 (by decide) ?_
  refine W.widen (k := 0) (n := 0) (Nat.le_of_ble_eq_true rfl) (Nat.le_of_ble_eq_true rfl) ?_
  exact W.iret (v := (-1)) hx hb hr (fun t ht hW => ⟨⟨(-1), (), rfl, rfl, trivial⟩, hS.F ht⟩) hS.2.2 dX11_left_16
def u_c_X11_fault : List Cond := .code yX11_fault cX11_fault 2 (some .int) :: ([.fieldLink RX11 16 "CakePapers" "scanner" "LCakePapers$Scanner;", .fieldLink RX11 145 "CakePapers$Scanner" "faultPlace" "I", .fieldLink RX11 142 "CakePapers$Scanner" "fault" "I"] ++ wsX110 ++ wsX80)
theorem iX11_c_X11_fault : ∀ w ∈ wsX110, w ∈ u_c_X11_fault := fun w h => List.mem_cons_of_mem _ (List.mem_append_left _ (List.mem_append_right _ h))
theorem iX8_c_X11_fault : ∀ w ∈ wsX80, w ∈ u_c_X11_fault := fun w h => List.mem_cons_of_mem _ (List.mem_append_right _ h)
set_option maxHeartbeats 1000000 in
set_option maxRecDepth 100000 in
theorem c_X11_fault (l : Launch) (dC : Nat → ClassId) (dI : Nat → Nat → Nat) (sz : Nat) (h0 h1 : Nat) (fs : List Value) (hn_fs : fs.length = 16) (e_fs_2 : fs[2]? = some (.ref h1)) (ss : List Value) (hn_ss : ss.length = 10) (e_ss_8 : ss[8]? = some (.int 0)) (e_ss_9 : ss[9]? = some (.int (-1))) (p0 : Int32) : Met l yX11_fault u_c_X11_fault ({ frames := 0, cells := 0, slots := 0, locals := 0 }) (va_Pc [.ref h0, .int p0] (fun U => U.heap.size = sz ∧ va_P (dC, dI) vwCl [(h0, .inr (11, fs)), (h1, .inr (8, ss))] U.heap ∧ va_K (dC, dI) vwCl [] U ∧ va_D (fun _ => True) [(h0, .inr (11, fs)), (h1, .inr (8, ss))])) (va_Qi (fun (r : Int32) (_ : Unit) => r = if p0 = 0 then 0 else -1) (fun _ _ => True) (va_A [(h0, .inr (11, fs)), (h1, .inr (8, ss))] sz)) 0 0 (va_A [(h0, .inr (11, fs)), (h1, .inr (8, ss))] sz) := by
  refine Met.ofW (cc := cX11_fault) (maxL := 2) (ret := (some .int)) (by decide) rfl ?_
  intro p e s m args below meth c s₁ B hml hv
  obtain ⟨rfl, hsz, hP, hK, hD0⟩ := hv
  have hx := B.exec
  have hb := B.bytes
  have hr := B.returns
  have hts := atoms_spec (ws := u_c_X11_fault) B.pre
  have hown : s.vm.findClass RX11 = some m.cls := findClass_of_methodNamed B.named
  have hlocks := B.notSynchronized
  have hiX11 := iX11_c_X11_fault
  have hiX8 := iX8_c_X11_fault
  subst hsz
  have hD := hD0.self (sz := s.heap.size)
  generalize hAe : va_A [(h0, .inr (11, fs)), (h1, .inr (8, ss))] s.heap.size = A at hD ⊢
  have hA : ∀ q : Nat, s.heap.size ≤ q → A q := fun q h => by rw [← hAe]; exact Or.inr h
  have hS : va_S A s.heap s.heap [] := va_S.rf
  obtain ⟨H, hH⟩ : ∃ H : Heap, H = s.heap := ⟨_, rfl⟩
  have hP : va_P (dC, dI) vwCl [(h0, .inr (11, fs)), (h1, .inr (8, ss))] H := by rw [hH]; exact hP
  have hS : va_S A s.heap H [] := by rw [hH]; exact hS
  have hl := lv_entry ([.ref h0, .int p0]) (n := 2) (Nat.le_of_ble_eq_true rfl)
  rw [lg_entry_eq]
  generalize (lg_sl ([.ref h0, .int p0]) ++ List.replicate (2 - (lg_sl ([.ref h0, .int p0])).length) Slot.unset).toArray = ls at hl ⊢
  have hl : lv_has ls 2 [(0, .ref h0), (1, .int p0)] := hl
  suffices h9 : W p l e (headSpec u_c_X11_fault _).room s m _ below meth c H [] 0 0 _ (F0 m 0 ls []) by rw [hH] at h9; exact h9
  refine lv_iload_n hx hb dX11_fault_0 rfl (lv_at hl 1 rfl) ?_
  refine lv_if_ne (tgt := 12) hx hb dX11_fault_1 (by decide) (fun c_1 => ?_) (fun c_1 => ?_)
  · refine lv_iload_n hx hb dX11_fault_12 rfl (lv_at hl 1 rfl) ?_
    refine lv_iconst (v := 1) hx hb dX11_fault_13 (by decide) ?_
    refine lv_icmp_ne (tgt := 27) hx hb dX11_fault_14 (by decide) (fun c_2 => ?_) (fun c_2 => ?_)
    · refine lv_iconst (v := (-1)) hx hb dX11_fault_27 (by decide) ?_
      refine W.widen (k := 0) (n := 0) (Nat.le_of_ble_eq_true rfl) (Nat.le_of_ble_eq_true rfl) ?_
      exact W.iret (v := (-1)) hx hb hr (fun t ht hW => ⟨⟨(-1), (), rfl, (if_neg c_1).symm, trivial⟩, hS.F ht⟩) hS.2.2 dX11_fault_28
    · refine lv_aload_n hx hb dX11_fault_17 rfl (lv_at hl 0 rfl) ?_
      refine va_get (D := (dC, dI)) (ci := 11) (v := .ref h1) (C := RX11) (T := TX11) (N := 16) hx hb hts hiX11 hown hK hP 0 rfl rfl 2 (by decide) (hts (.fieldLink RX11 16 "CakePapers" "scanner" "LCakePapers$Scanner;") (by decide +kernel)) (fun _ h9 => h9) e_fs_2 dX11_fault_18 ?_
      refine va_get (D := (dC, dI)) (ci := 8) (v := .int (-1)) (C := RX8) (T := TX8) (N := 10) hx hb hts hiX8 hown hK hP 1 rfl rfl 9 (by decide) (hts (.fieldLink RX11 145 "CakePapers$Scanner" "faultPlace" "I") (by decide +kernel)) (fun _ h9 => h9) e_ss_9 dX11_fault_21 ?_
      refine lv_goto (tgt := 28) hx hb dX11_fault_24 (by decide) ?_
      refine W.widen (k := 0) (n := 0) (Nat.le_of_ble_eq_true rfl) (Nat.le_of_ble_eq_true rfl) ?_
      exact W.iret (v := (-1)) hx hb hr (fun t ht hW => ⟨⟨(-1), (), rfl, (if_neg c_1).symm, trivial⟩, hS.F ht⟩) hS.2.2 dX11_fault_28
  · refine lv_aload_n hx hb dX11_fault_4 rfl (lv_at hl 0 rfl) ?_
    refine va_get (D := (dC, dI)) (ci := 11) (v := .ref h1) (C := RX11) (T := TX11) (N := 16) hx hb hts hiX11 hown hK hP 0 rfl rfl 2 (by decide) (hts (.fieldLink RX11 16 "CakePapers" "scanner" "LCakePapers$Scanner;") (by decide +kernel)) (fun _ h9 => h9) e_fs_2 dX11_fault_5 ?_
    refine va_get (D := (dC, dI)) (ci := 8) (v := .int 0) (C := RX8) (T := TX8) (N := 10) hx hb hts hiX8 hown hK hP 1 rfl rfl 8 (by decide) (hts (.fieldLink RX11 142 "CakePapers$Scanner" "fault" "I") (by decide +kernel)) (fun _ h9 => h9) e_ss_8 dX11_fault_8 ?_
    refine W.widen (k := 0) (n := 0) (Nat.le_of_ble_eq_true rfl) (Nat.le_of_ble_eq_true rfl) ?_
    exact W.iret (v := 0) hx hb hr (fun t ht hW => ⟨⟨0, (), rfl, (if_pos c_1).symm, trivial⟩, hS.F ht⟩) hS.2.2 dX11_fault_11
def u_c_X11_end : List Cond := .code yX11_end cX11_end 2 (some .int) :: ([.fieldLink RX11 107 "CakePapers" "taped" "I"] ++ wsX110)
theorem iX11_c_X11_end : ∀ w ∈ wsX110, w ∈ u_c_X11_end := fun w h => List.mem_cons_of_mem _ (List.mem_append_right _ h)
set_option maxHeartbeats 1000000 in
set_option maxRecDepth 100000 in
theorem c_X11_end (l : Launch) (dC : Nat → ClassId) (dI : Nat → Nat → Nat) (sz : Nat) (h0 : Nat) (fs : List Value) (hn_fs : fs.length = 16) (e_fs_1 : fs[1]? = some (.int 0)) (p0 : Int32) : Met l yX11_end u_c_X11_end ({ frames := 0, cells := 0, slots := 0, locals := 0 }) (va_Pc [.ref h0, .int p0] (fun U => U.heap.size = sz ∧ va_P (dC, dI) vwCl [(h0, .inr (11, fs))] U.heap ∧ va_K (dC, dI) vwCl [] U ∧ va_D (fun _ => True) [(h0, .inr (11, fs))])) (va_Qi (fun (r : Int32) (_ : Unit) => r = if p0 = 0 then 0 else -1) (fun _ _ => True) (va_A [(h0, .inr (11, fs))] sz)) 0 0 (va_A [(h0, .inr (11, fs))] sz) := by
  refine Met.ofW (cc := cX11_end) (maxL := 2) (ret := (some .int)) (by decide) rfl ?_
  intro p e s m args below meth c s₁ B hml hv
  obtain ⟨rfl, hsz, hP, hK, hD0⟩ := hv
  have hx := B.exec
  have hb := B.bytes
  have hr := B.returns
  have hts := atoms_spec (ws := u_c_X11_end) B.pre
  have hown : s.vm.findClass RX11 = some m.cls := findClass_of_methodNamed B.named
  have hlocks := B.notSynchronized
  have hiX11 := iX11_c_X11_end
  subst hsz
  have hD := hD0.self (sz := s.heap.size)
  generalize hAe : va_A [(h0, .inr (11, fs))] s.heap.size = A at hD ⊢
  have hA : ∀ q : Nat, s.heap.size ≤ q → A q := fun q h => by rw [← hAe]; exact Or.inr h
  have hS : va_S A s.heap s.heap [] := va_S.rf
  obtain ⟨H, hH⟩ : ∃ H : Heap, H = s.heap := ⟨_, rfl⟩
  have hP : va_P (dC, dI) vwCl [(h0, .inr (11, fs))] H := by rw [hH]; exact hP
  have hS : va_S A s.heap H [] := by rw [hH]; exact hS
  have hl := lv_entry ([.ref h0, .int p0]) (n := 2) (Nat.le_of_ble_eq_true rfl)
  rw [lg_entry_eq]
  generalize (lg_sl ([.ref h0, .int p0]) ++ List.replicate (2 - (lg_sl ([.ref h0, .int p0])).length) Slot.unset).toArray = ls at hl ⊢
  have hl : lv_has ls 2 [(0, .ref h0), (1, .int p0)] := hl
  suffices h9 : W p l e (headSpec u_c_X11_end _).room s m _ below meth c H [] 0 0 _ (F0 m 0 ls []) by rw [hH] at h9; exact h9
  refine lv_iload_n hx hb dX11_end_0 rfl (lv_at hl 1 rfl) ?_
  refine lv_if_lt (tgt := 12) hx hb dX11_end_1 (by decide) (fun c_1 => ?_) (fun c_1 => ?_)
  · refine lv_iconst (v := (-1)) hx hb dX11_end_12 (by decide) ?_
    refine W.widen (k := 0) (n := 0) (Nat.le_of_ble_eq_true rfl) (Nat.le_of_ble_eq_true rfl) ?_
    exact W.iret (v := (-1)) hx hb hr (fun t ht hW => ⟨⟨(-1), (), rfl, zz_e1 c_1, trivial⟩, hS.F ht⟩) hS.2.2 dX11_end_13
  · refine lv_iload_n hx hb dX11_end_4 rfl (lv_at hl 1 rfl) ?_
    refine lv_aload_n hx hb dX11_end_5 rfl (lv_at hl 0 rfl) ?_
    refine va_get (D := (dC, dI)) (ci := 11) (v := .int 0) (C := RX11) (T := TX11) (N := 16) hx hb hts hiX11 hown hK hP 0 rfl rfl 1 (by decide) (hts (.fieldLink RX11 107 "CakePapers" "taped" "I") (by decide +kernel)) (fun _ h9 => h9) e_fs_1 dX11_end_6 ?_
    refine lv_icmp_le (tgt := 14) hx hb dX11_end_9 (by decide) (fun c_2 => ?_) (fun c_2 => ?_)
    · refine lv_aload_n hx hb dX11_end_14 rfl (lv_at hl 0 rfl) ?_
      refine lv_iload_n hx hb dX11_end_15 rfl (lv_at hl 1 rfl) ?_
      refine va_put (D := (dC, dI)) (ci := 11) (v := .int p0) (ty := .int) (C := RX11) (T := TX11) (N := 16) hx hb hts hiX11 tyX11 tyX11_ok nmX11 hown hK hP hD hS 0 rfl rfl 1 (by decide) (hts (.fieldLink RX11 107 "CakePapers" "taped" "I") (by decide +kernel)) (fun _ h9 => h9) rfl (by decide +kernel) rfl rfl (by simp [hn_fs]) dX11_end_16 (fun H locs hP hD hS => ?_)
      have hP : va_P (dC, dI) vwCl [(h0, .inr (11, (List.set fs 1 (.int p0))))] H := hP
      have hD : va_D A [(h0, .inr (11, (List.set fs 1 (.int p0))))] := hD
      refine lv_iload_n hx hb dX11_end_19 rfl (lv_at hl 1 rfl) ?_
      refine W.widen (k := 0) (n := 0) (Nat.le_of_ble_eq_true rfl) (Nat.le_of_ble_eq_true rfl) ?_
      exact W.iret (v := p0) hx hb hr (fun t ht hW => ⟨⟨p0, (), rfl, zz_e3 c_1 c_2, trivial⟩, hS.F ht⟩) hS.2.2 dX11_end_20
    · refine lv_iconst (v := (-1)) hx hb dX11_end_12 (by decide) ?_
      refine W.widen (k := 0) (n := 0) (Nat.le_of_ble_eq_true rfl) (Nat.le_of_ble_eq_true rfl) ?_
      exact W.iret (v := (-1)) hx hb hr (fun t ht hW => ⟨⟨(-1), (), rfl, zz_e2 c_2, trivial⟩, hS.F ht⟩) hS.2.2 dX11_end_13
def u_c_X11_about : List Cond := .code yX11_about cX11_about 3 (some .int) :: ([.fieldLink RX11 39 "CakePapers" "desk" "LCakePapers$Desk;", .fieldLink RX11 251 "CakePapers$Desk" "joining" "LCakePapers$Joining;", .code yX4_isThere cX4_isThere 1 (some .boolean), .fieldLink RX4 38 "CakePapers$Joining" "base" "LCakePapers$Paper;", .methodLink RX11 280 yX4_isThere, .instanceMethod yX4_isThere, .selects RX4 yX4_isThere yX4_isThere, .initialized RX4, .fieldLink RX11 43 "CakePapers$Desk" "count" "I", .fieldLink RX11 63 "CakePapers" "wanted" "LCakePapers$Want;", .fieldLink RX11 139 "CakePapers$Want" "units" "I", .fieldLink RX11 107 "CakePapers" "taped" "I"] ++ wsX110 ++ wsX10 ++ wsX40 ++ wsX90)
theorem iX11_c_X11_about : ∀ w ∈ wsX110, w ∈ u_c_X11_about := fun w h => List.mem_cons_of_mem _ (List.mem_append_left _ (List.mem_append_left _ (List.mem_append_left _ (List.mem_append_right _ h))))
theorem iX1_c_X11_about : ∀ w ∈ wsX10, w ∈ u_c_X11_about := fun w h => List.mem_cons_of_mem _ (List.mem_append_left _ (List.mem_append_left _ (List.mem_append_right _ h)))
theorem iX4_c_X11_about : ∀ w ∈ wsX40, w ∈ u_c_X11_about := fun w h => List.mem_cons_of_mem _ (List.mem_append_left _ (List.mem_append_right _ h))
theorem iX9_c_X11_about : ∀ w ∈ wsX90, w ∈ u_c_X11_about := fun w h => List.mem_cons_of_mem _ (List.mem_append_right _ h)
set_option maxRecDepth 20000 in
theorem g_c_X11_about_c_X4_isThere_0 : GoodIn u_c_X11_about (wsV RX11 280 RX4 yX4_isThere u_c_X4_isThere) := goodIn_app (goodIn_of _ (by decide +kernel)) (goodIn_ca (goodIn_of (.code yX4_isThere cX4_isThere 1 (some .boolean) :: [.fieldLink RX4 38 "CakePapers$Joining" "base" "LCakePapers$Paper;"]) (by decide +kernel)) (goodIn_sub iX4_c_X11_about zgX4))
set_option maxHeartbeats 1000000 in
set_option maxRecDepth 100000 in
theorem c_X11_about (l : Launch) (dC : Nat → ClassId) (dI : Nat → Nat → Nat) (sz : Nat) (h0 h1 h3 h2 : Nat) (fs : List Value) (hn_fs : fs.length = 16) (e_fs_1 : fs[1]? = some (.int 0)) (e_fs_5 : fs[5]? = some (.ref h1)) (e_fs_8 : fs[8]? = some (.ref h3)) (gs : List Value) (hn_gs : gs.length = 3) (e_gs_1 : gs[1]? = some (.ref h2)) (e_gs_2 : gs[2]? = some (.int 0)) (js : List Value) (hn_js : js.length = 13) (e_js_0 : js[0]? = some .null) (e_js_12 : js[12]? = some (.int 0)) (ws : List Value) (hn_ws : ws.length = 5) (e_ws_4 : ws[4]? = some (.int 0)) (p0 : Int32) : Met l yX11_about u_c_X11_about ({ frames := 1, cells := 0, slots := 0, locals := 20 }) (va_Pc [.ref h0, .int p0] (fun U => U.heap.size = sz ∧ va_P (dC, dI) vwCl [(h0, .inr (11, fs)), (h1, .inr (1, gs)), (h2, .inr (4, js)), (h3, .inr (9, ws))] U.heap ∧ va_K (dC, dI) vwCl [] U ∧ va_D (fun _ => True) [(h0, .inr (11, fs)), (h1, .inr (1, gs)), (h2, .inr (4, js)), (h3, .inr (9, ws))])) (va_Qi (fun (r : Int32) (_ : Unit) => r = zz_ab p0) (fun _ _ => True) (va_A [(h0, .inr (11, fs)), (h1, .inr (1, gs)), (h2, .inr (4, js)), (h3, .inr (9, ws))] sz)) 0 0 (va_A [(h0, .inr (11, fs)), (h1, .inr (1, gs)), (h2, .inr (4, js)), (h3, .inr (9, ws))] sz) := by
  refine Met.ofW (cc := cX11_about) (maxL := 3) (ret := (some .int)) (by decide) rfl ?_
  intro p e s m args below meth c s₁ B hml hv
  obtain ⟨rfl, hsz, hP, hK, hD0⟩ := hv
  have hx := B.exec
  have hb := B.bytes
  have hr := B.returns
  have hts := atoms_spec (ws := u_c_X11_about) B.pre
  have hown : s.vm.findClass RX11 = some m.cls := findClass_of_methodNamed B.named
  have hlocks := B.notSynchronized
  have hiX11 := iX11_c_X11_about
  have hiX1 := iX1_c_X11_about
  have hiX4 := iX4_c_X11_about
  have hiX9 := iX9_c_X11_about
  subst hsz
  have hD := hD0.self (sz := s.heap.size)
  generalize hAe : va_A [(h0, .inr (11, fs)), (h1, .inr (1, gs)), (h2, .inr (4, js)), (h3, .inr (9, ws))] s.heap.size = A at hD ⊢
  have hA : ∀ q : Nat, s.heap.size ≤ q → A q := fun q h => by rw [← hAe]; exact Or.inr h
  have hS : va_S A s.heap s.heap [] := va_S.rf
  obtain ⟨H, hH⟩ : ∃ H : Heap, H = s.heap := ⟨_, rfl⟩
  have hP : va_P (dC, dI) vwCl [(h0, .inr (11, fs)), (h1, .inr (1, gs)), (h2, .inr (4, js)), (h3, .inr (9, ws))] H := by rw [hH]; exact hP
  have hS : va_S A s.heap H [] := by rw [hH]; exact hS
  have hl := lv_entry ([.ref h0, .int p0]) (n := 3) (Nat.le_of_ble_eq_true rfl)
  rw [lg_entry_eq]
  generalize (lg_sl ([.ref h0, .int p0]) ++ List.replicate (3 - (lg_sl ([.ref h0, .int p0])).length) Slot.unset).toArray = ls at hl ⊢
  have hl : lv_has ls 3 [(0, .ref h0), (1, .int p0)] := hl
  suffices h9 : W p l e (headSpec u_c_X11_about _).room s m _ below meth c H [] 0 0 _ (F0 m 0 ls []) by rw [hH] at h9; exact h9
  refine lv_aload_n hx hb dX11_about_0 rfl (lv_at hl 0 rfl) ?_
  refine va_get (D := (dC, dI)) (ci := 11) (v := .ref h1) (C := RX11) (T := TX11) (N := 16) hx hb hts hiX11 hown hK hP 0 rfl rfl 5 (by decide) (hts (.fieldLink RX11 39 "CakePapers" "desk" "LCakePapers$Desk;") (by decide +kernel)) (fun _ h9 => h9) e_fs_5 dX11_about_1 ?_
  refine va_get (D := (dC, dI)) (ci := 1) (v := .ref h2) (C := RX1) (T := TX1) (N := 3) hx hb hts hiX1 hown hK hP 1 rfl rfl 1 (by decide) (hts (.fieldLink RX11 251 "CakePapers$Desk" "joining" "LCakePapers$Joining;") (by decide +kernel)) (fun _ h9 => h9) e_gs_1 dX11_about_4 ?_
  have hPc := hP.sub (ws' := [(h2, .inr (4, js))]) [2] rfl
  have hDc := hD.sub (ws' := [(h2, .inr (4, js))]) [2] (by decide) rfl
  have hKc := hK.sub (tys' := []) [] rfl
  have hFc := va_free (wc := [(h2, .inr (4, js))]) hD hS hA [2] rfl
  refine va_calli (va_runV (As := []) (rest := []) ⟨hx, hb, hml, hown, hts⟩ (c_X4_isThere l dC dI H.size h2 js hn_js e_js_0) (cwV 0 hts g_c_X11_about_c_X4_isThere_0 rfl rfl rfl (by decide +kernel) ⟨Nat.le_of_ble_eq_true rfl, Nat.le_of_ble_eq_true rfl⟩) ⟨fun a U g mk q => by obtain ⟨q0, q1, qP, qK, qD⟩ := q; exact ⟨q0, q1, qP, va_K.moved (u := U) (U := U.calling g mk a) (Vm.Alike.refl U.vm) qK, qD⟩, va_recv hKc hPc (ci := 4) (q0 := 0) rfl rfl, fun U hU hW => ⟨rfl, by rw [hU], by rw [hU]; exact hPc, va_K.moved hW.alike hKc, hDc.weaken (fun _ _ _ _ => trivial)⟩⟩ rfl rfl hl.1 rfl (lv_room (Nat.le_of_ble_eq_true rfl)) dX11_about_7 ⟨Nat.le_of_ble_eq_true rfl, Nat.le_of_ble_eq_true rfl⟩) hS (fun q _ h => hFc q h) hFc (fun r_1 u t H1 locs ht hvm hw hB hz1 hk1 hS => ?_)
  obtain ⟨hP1, hD1⟩ := hB
  rw [ht] at hP1
  obtain ⟨hP, hD⟩ := va_join (wr := [(h0, .inr (11, fs)), (h1, .inr (1, gs)), (h3, .inr (9, ws))]) (w1 := [(h2, .inr (4, js))]) hP hD [2] [0, 1, 3] rfl rfl (by decide) (by decide) hk1 hFc hP1 hD1
  generalize H1 = H at hP hS ⊢
  have hP : va_P (dC, dI) vwCl [(h0, .inr (11, fs)), (h1, .inr (1, gs)), (h3, .inr (9, ws)), (h2, .inr (4, js))] H := hP
  have hD : va_D A [(h0, .inr (11, fs)), (h1, .inr (1, gs)), (h3, .inr (9, ws)), (h2, .inr (4, js))] := hD
  refine W.widen (k := 0) (n := 0) (Nat.le_of_ble_eq_true rfl) (Nat.le_of_ble_eq_true rfl) ?_
  refine zz_ci (y := 0) hw ?_
  refine lv_istore_n (lv' := [(2, .int 0), (0, .ref h0), (1, .int p0)]) hx hb dX11_about_10 rfl hl (by decide) rfl (fun ls hl => ?_)
  refine lv_iload_n hx hb dX11_about_11 rfl (lv_at hl 2 rfl) ?_
  rcases zz_sw_0_4 p0 with c_2 | c_2 | c_2 | c_2 | c_2 | c_2
  · refine lv_tableOut (tgt := 107) hx hb dX11_about_12 c_2 (by decide) ?_
    refine lv_iconst (v := (-1)) hx hb dX11_about_107 (by decide) ?_
    refine W.widen (k := 0) (n := 0) (Nat.le_of_ble_eq_true rfl) (Nat.le_of_ble_eq_true rfl) ?_
    exact W.iret (v := (-1)) hx hb hr (fun t ht hW => ⟨⟨(-1), (), rfl, zz_abo c_2, trivial⟩, hS.F ht⟩) hS.2.2 dX11_about_108
  · refine zz_ci (y := 0) c_2 ?_
    refine lv_tableIn (tgt := 48) hx hb dX11_about_12 (by decide) (by decide) rfl (by decide) ?_
    refine lv_aload_n hx hb dX11_about_48 rfl (lv_at hl 1 rfl) ?_
    refine va_get (D := (dC, dI)) (ci := 11) (v := .ref h1) (C := RX11) (T := TX11) (N := 16) hx hb hts hiX11 hown hK hP 0 rfl rfl 5 (by decide) (hts (.fieldLink RX11 39 "CakePapers" "desk" "LCakePapers$Desk;") (by decide +kernel)) (fun _ h9 => h9) e_fs_5 dX11_about_49 ?_
    refine va_get (D := (dC, dI)) (ci := 1) (v := .int 0) (C := RX1) (T := TX1) (N := 3) hx hb hts hiX1 hown hK hP 1 rfl rfl 2 (by decide) (hts (.fieldLink RX11 43 "CakePapers$Desk" "count" "I") (by decide +kernel)) (fun _ h9 => h9) e_gs_2 dX11_about_52 ?_
    refine W.widen (k := 0) (n := 0) (Nat.le_of_ble_eq_true rfl) (Nat.le_of_ble_eq_true rfl) ?_
    exact W.iret (v := 0) hx hb hr (fun t ht hW => ⟨⟨0, (), rfl, (by rw [c_2]; decide), trivial⟩, hS.F ht⟩) hS.2.2 dX11_about_55
  · refine zz_ci (y := 1) c_2 ?_
    refine lv_tableIn (tgt := 56) hx hb dX11_about_12 (by decide) (by decide) rfl (by decide) ?_
    refine lv_aload_n hx hb dX11_about_56 rfl (lv_at hl 1 rfl) ?_
    refine va_get (D := (dC, dI)) (ci := 11) (v := .ref h3) (C := RX11) (T := TX11) (N := 16) hx hb hts hiX11 hown hK hP 0 rfl rfl 8 (by decide) (hts (.fieldLink RX11 63 "CakePapers" "wanted" "LCakePapers$Want;") (by decide +kernel)) (fun _ h9 => h9) e_fs_8 dX11_about_57 ?_
    refine va_get (D := (dC, dI)) (ci := 9) (v := .int 0) (C := RX9) (T := TX9) (N := 5) hx hb hts hiX9 hown hK hP 2 rfl rfl 4 (by decide) (hts (.fieldLink RX11 139 "CakePapers$Want" "units" "I") (by decide +kernel)) (fun _ h9 => h9) e_ws_4 dX11_about_60 ?_
    refine W.widen (k := 0) (n := 0) (Nat.le_of_ble_eq_true rfl) (Nat.le_of_ble_eq_true rfl) ?_
    exact W.iret (v := 0) hx hb hr (fun t ht hW => ⟨⟨0, (), rfl, (by rw [c_2]; decide), trivial⟩, hS.F ht⟩) hS.2.2 dX11_about_63
  · refine zz_ci (y := 2) c_2 ?_
    refine lv_tableIn (tgt := 64) hx hb dX11_about_12 (by decide) (by decide) rfl (by decide) ?_
    refine lv_iload_n hx hb dX11_about_64 rfl (lv_at hl 0 rfl) ?_
    refine lv_if_eq (tgt := 81) hx hb dX11_about_65 (by decide) (fun c_3 => ?_) (fun c_3 => absurd c_3 (by decide))
    refine lv_iconst (v := (-1)) hx hb dX11_about_81 (by decide) ?_
    refine W.widen (k := 0) (n := 0) (Nat.le_of_ble_eq_true rfl) (Nat.le_of_ble_eq_true rfl) ?_
    exact W.iret (v := (-1)) hx hb hr (fun t ht hW => ⟨⟨(-1), (), rfl, (by rw [c_2]; decide), trivial⟩, hS.F ht⟩) hS.2.2 dX11_about_82
  · refine zz_ci (y := 3) c_2 ?_
    refine lv_tableIn (tgt := 83) hx hb dX11_about_12 (by decide) (by decide) rfl (by decide) ?_
    refine lv_iload_n hx hb dX11_about_83 rfl (lv_at hl 0 rfl) ?_
    refine lv_if_eq (tgt := 100) hx hb dX11_about_84 (by decide) (fun c_4 => ?_) (fun c_4 => absurd c_4 (by decide))
    refine lv_iconst (v := (-1)) hx hb dX11_about_100 (by decide) ?_
    refine W.widen (k := 0) (n := 0) (Nat.le_of_ble_eq_true rfl) (Nat.le_of_ble_eq_true rfl) ?_
    exact W.iret (v := (-1)) hx hb hr (fun t ht hW => ⟨⟨(-1), (), rfl, (by rw [c_2]; decide), trivial⟩, hS.F ht⟩) hS.2.2 dX11_about_101
  · refine zz_ci (y := 4) c_2 ?_
    refine lv_tableIn (tgt := 102) hx hb dX11_about_12 (by decide) (by decide) rfl (by decide) ?_
    refine lv_aload_n hx hb dX11_about_102 rfl (lv_at hl 1 rfl) ?_
    refine va_get (D := (dC, dI)) (ci := 11) (v := .int 0) (C := RX11) (T := TX11) (N := 16) hx hb hts hiX11 hown hK hP 0 rfl rfl 1 (by decide) (hts (.fieldLink RX11 107 "CakePapers" "taped" "I") (by decide +kernel)) (fun _ h9 => h9) e_fs_1 dX11_about_103 ?_
    refine W.widen (k := 0) (n := 0) (Nat.le_of_ble_eq_true rfl) (Nat.le_of_ble_eq_true rfl) ?_
    exact W.iret (v := 0) hx hb hr (fun t ht hW => ⟨⟨0, (), rfl, (by rw [c_2]; decide), trivial⟩, hS.F ht⟩) hS.2.2 dX11_about_106
def u_c_X11_putFour_0 : List Cond := .code yX11_putFour cX11_putFour 3 none :: ([.fieldLink RX11 9 "CakePapers" "tape" "[I", .fieldLink RX11 107 "CakePapers" "taped" "I"] ++ wsX110)
theorem iX11_c_X11_putFour_0 : ∀ w ∈ wsX110, w ∈ u_c_X11_putFour_0 := fun w h => List.mem_cons_of_mem _ (List.mem_append_right _ h)
set_option maxHeartbeats 1000000 in
set_option maxRecDepth 100000 in
theorem c_X11_putFour_0 (l : Launch) (dC : Nat → ClassId) (dI : Nat → Nat → Nat) (sz : Nat) (h0 h1 : Nat) (cI : ClassId) (f : Nat → Int32) (fs : List Value) (hn_fs : fs.length = 16) (e_fs_0 : fs[0]? = some (.ref h1)) (e_fs_1 : fs[1]? = some (.int 0)) (p0 : Int32) : Met l yX11_putFour u_c_X11_putFour_0 ({ frames := 0, cells := 0, slots := 0, locals := 0 }) (va_Pc [.ref h0, .int p0] (fun U => U.heap.size = sz ∧ va_P (dC, dI) vwCl [(h0, .inr (11, fs)), (h1, .inl (cI, 1200, .inl f))] U.heap ∧ va_K (dC, dI) vwCl [(cI, .int)] U ∧ va_D (fun _ => True) [(h0, .inr (11, fs)), (h1, .inl (cI, 1200, .inl f))])) (va_Qv (fun (_ : Unit) => True) (fun _ t => ∃ (f_12 : Nat → Int32), va_P (dC, dI) vwCl [(h0, .inr (11, (List.set (List.set (List.set (List.set fs 1 (.int 1)) 1 (.int 2)) 1 (.int 3)) 1 (.int 4)))), (h1, .inl (cI, 1200, .inl f_12))] t.heap ∧ va_D (va_A [(h0, .inr (11, fs)), (h1, .inl (cI, 1200, .inl f))] sz) [(h0, .inr (11, (List.set (List.set (List.set (List.set fs 1 (.int 1)) 1 (.int 2)) 1 (.int 3)) 1 (.int 4)))), (h1, .inl (cI, 1200, .inl f_12))]) (va_A [(h0, .inr (11, fs)), (h1, .inl (cI, 1200, .inl f))] sz)) 0 0 (va_A [(h0, .inr (11, fs)), (h1, .inl (cI, 1200, .inl f))] sz) := by
  refine Met.ofW (cc := cX11_putFour) (maxL := 3) (ret := none) (by decide) rfl ?_
  intro p e s m args below meth c s₁ B hml hv
  obtain ⟨rfl, hsz, hP, hK, hD0⟩ := hv
  have hx := B.exec
  have hb := B.bytes
  have hr := B.returns
  have hts := atoms_spec (ws := u_c_X11_putFour_0) B.pre
  have hown : s.vm.findClass RX11 = some m.cls := findClass_of_methodNamed B.named
  have hlocks := B.notSynchronized
  have hiX11 := iX11_c_X11_putFour_0
  subst hsz
  have hD := hD0.self (sz := s.heap.size)
  generalize hAe : va_A [(h0, .inr (11, fs)), (h1, .inl (cI, 1200, .inl f))] s.heap.size = A at hD ⊢
  have hA : ∀ q : Nat, s.heap.size ≤ q → A q := fun q h => by rw [← hAe]; exact Or.inr h
  have hS : va_S A s.heap s.heap [] := va_S.rf
  obtain ⟨H, hH⟩ : ∃ H : Heap, H = s.heap := ⟨_, rfl⟩
  have hP : va_P (dC, dI) vwCl [(h0, .inr (11, fs)), (h1, .inl (cI, 1200, .inl f))] H := by rw [hH]; exact hP
  have hS : va_S A s.heap H [] := by rw [hH]; exact hS
  have hl := lv_entry ([.ref h0, .int p0]) (n := 3) (Nat.le_of_ble_eq_true rfl)
  rw [lg_entry_eq]
  generalize (lg_sl ([.ref h0, .int p0]) ++ List.replicate (3 - (lg_sl ([.ref h0, .int p0])).length) Slot.unset).toArray = ls at hl ⊢
  have hl : lv_has ls 3 [(0, .ref h0), (1, .int p0)] := hl
  suffices h9 : W p l e (headSpec u_c_X11_putFour_0 _).room s m _ below meth c H [] 0 0 _ (F0 m 0 ls []) by rw [hH] at h9; exact h9
  refine lv_bipush (v := 24) hx hb dX11_putFour_0 (by decide) ?_
  refine lv_istore_n (lv' := [(2, .int 24), (0, .ref h0), (1, .int p0)]) hx hb dX11_putFour_2 rfl hl (by decide) rfl (fun ls hl => ?_)
  refine lv_iload_n hx hb dX11_putFour_3 rfl (lv_at hl 0 rfl) ?_
  refine lv_if_lt (tgt := 39) hx hb dX11_putFour_4 (by decide) (fun c_1 => absurd c_1 (by decide)) (fun c_1 => ?_)
  refine lv_aload_n hx hb dX11_putFour_7 rfl (lv_at hl 1 rfl) ?_
  refine va_get (D := (dC, dI)) (ci := 11) (v := .ref h1) (C := RX11) (T := TX11) (N := 16) hx hb hts hiX11 hown hK hP 0 rfl rfl 0 (by decide) (hts (.fieldLink RX11 9 "CakePapers" "tape" "[I") (by decide +kernel)) (fun _ h9 => h9) e_fs_0 dX11_putFour_8 ?_
  refine lv_aload_n hx hb dX11_putFour_11 rfl (lv_at hl 1 rfl) ?_
  refine va_get (D := (dC, dI)) (ci := 11) (v := .int 0) (C := RX11) (T := TX11) (N := 16) hx hb hts hiX11 hown hK hP 0 rfl rfl 1 (by decide) (hts (.fieldLink RX11 107 "CakePapers" "taped" "I") (by decide +kernel)) (fun _ h9 => h9) e_fs_1 dX11_putFour_12 ?_
  refine lv_iload_n hx hb dX11_putFour_15 rfl (lv_at hl 2 rfl) ?_
  refine lv_iload_n hx hb dX11_putFour_16 rfl (lv_at hl 0 rfl) ?_
  refine lv_iushr (v := (Int32.toUInt32 p0 >>> (Int32.toUInt32 24 &&& Int32.toUInt32 31)).toInt32) hx hb dX11_putFour_17 rfl ?_
  refine lv_topi (fun v_2 _ => ?_)
  refine lv_sipush (v := 255) hx hb dX11_putFour_18 (by decide) ?_
  refine lv_iand hx hb dX11_putFour_21 ?_
  refine va_iast hx hb hK hP hD hS 1 0 rfl rfl (zz_in (by decide)) dX11_putFour_22 (fun H locs hP hD hS => ?_)
  obtain ⟨f_3, hP, hD⟩ : ∃ f_3 : Nat → Int32, va_P (dC, dI) vwCl [(h0, .inr (11, fs)), (h1, .inl (cI, 1200, .inl f_3))] H ∧ va_D A [(h0, .inr (11, fs)), (h1, .inl (cI, 1200, .inl f_3))] := ⟨_, hP, hD⟩
  refine lv_aload_n hx hb dX11_putFour_23 rfl (lv_at hl 1 rfl) ?_
  refine lv_dup hx hb dX11_putFour_24 rfl ?_
  refine va_get (D := (dC, dI)) (ci := 11) (v := .int 0) (C := RX11) (T := TX11) (N := 16) hx hb hts hiX11 hown hK hP 0 rfl rfl 1 (by decide) (hts (.fieldLink RX11 107 "CakePapers" "taped" "I") (by decide +kernel)) (fun _ h9 => h9) e_fs_1 dX11_putFour_25 ?_
  refine lv_iconst (v := 1) hx hb dX11_putFour_28 (by decide) ?_
  refine lv_iadd hx hb dX11_putFour_29 ?_
  refine zz_ci (y := 1) (by decide) ?_
  refine va_put (D := (dC, dI)) (ci := 11) (v := .int 1) (ty := .int) (C := RX11) (T := TX11) (N := 16) hx hb hts hiX11 tyX11 tyX11_ok nmX11 hown hK hP hD hS 0 rfl rfl 1 (by decide) (hts (.fieldLink RX11 107 "CakePapers" "taped" "I") (by decide +kernel)) (fun _ h9 => h9) rfl (by decide +kernel) rfl rfl (by simp [hn_fs]) dX11_putFour_30 (fun H locs hP hD hS => ?_)
  have hP : va_P (dC, dI) vwCl [(h0, .inr (11, (List.set fs 1 (.int 1)))), (h1, .inl (cI, 1200, .inl f_3))] H := hP
  have hD : va_D A [(h0, .inr (11, (List.set fs 1 (.int 1)))), (h1, .inl (cI, 1200, .inl f_3))] := hD
  refine lv_iinc (v := 16) (lv' := [(2, .int 16), (0, .ref h0), (1, .int p0)]) hx hb dX11_putFour_33 hl (k := 0) rfl (by decide) (by decide) rfl (fun ls hl => ?_)
  refine lv_goto (tgt := 3) hx hb dX11_putFour_36 (by decide) ?_
  refine lv_iload_n hx hb dX11_putFour_3 rfl (lv_at hl 0 rfl) ?_
  refine lv_if_lt (tgt := 39) hx hb dX11_putFour_4 (by decide) (fun c_4 => absurd c_4 (by decide)) (fun c_4 => ?_)
  refine lv_aload_n hx hb dX11_putFour_7 rfl (lv_at hl 1 rfl) ?_
  refine va_get (D := (dC, dI)) (ci := 11) (v := .ref h1) (C := RX11) (T := TX11) (N := 16) hx hb hts hiX11 hown hK hP 0 rfl rfl 0 (by decide) (hts (.fieldLink RX11 9 "CakePapers" "tape" "[I") (by decide +kernel)) (fun _ h9 => h9) (by simp [e_fs_0]) dX11_putFour_8 ?_
  refine lv_aload_n hx hb dX11_putFour_11 rfl (lv_at hl 1 rfl) ?_
  refine va_get (D := (dC, dI)) (ci := 11) (v := .int 1) (C := RX11) (T := TX11) (N := 16) hx hb hts hiX11 hown hK hP 0 rfl rfl 1 (by decide) (hts (.fieldLink RX11 107 "CakePapers" "taped" "I") (by decide +kernel)) (fun _ h9 => h9) (by simp [hn_fs]) dX11_putFour_12 ?_
  refine lv_iload_n hx hb dX11_putFour_15 rfl (lv_at hl 2 rfl) ?_
  refine lv_iload_n hx hb dX11_putFour_16 rfl (lv_at hl 0 rfl) ?_
  refine lv_iushr (v := (Int32.toUInt32 p0 >>> (Int32.toUInt32 16 &&& Int32.toUInt32 31)).toInt32) hx hb dX11_putFour_17 rfl ?_
  refine lv_topi (fun v_5 _ => ?_)
  refine lv_sipush (v := 255) hx hb dX11_putFour_18 (by decide) ?_
  refine lv_iand hx hb dX11_putFour_21 ?_
  refine va_iast hx hb hK hP hD hS 1 0 rfl rfl (zz_in (by decide)) dX11_putFour_22 (fun H locs hP hD hS => ?_)
  obtain ⟨f_6, hP, hD⟩ : ∃ f_6 : Nat → Int32, va_P (dC, dI) vwCl [(h0, .inr (11, (List.set fs 1 (.int 1)))), (h1, .inl (cI, 1200, .inl f_6))] H ∧ va_D A [(h0, .inr (11, (List.set fs 1 (.int 1)))), (h1, .inl (cI, 1200, .inl f_6))] := ⟨_, hP, hD⟩
  refine lv_aload_n hx hb dX11_putFour_23 rfl (lv_at hl 1 rfl) ?_
  refine lv_dup hx hb dX11_putFour_24 rfl ?_
  refine va_get (D := (dC, dI)) (ci := 11) (v := .int 1) (C := RX11) (T := TX11) (N := 16) hx hb hts hiX11 hown hK hP 0 rfl rfl 1 (by decide) (hts (.fieldLink RX11 107 "CakePapers" "taped" "I") (by decide +kernel)) (fun _ h9 => h9) (by simp [hn_fs]) dX11_putFour_25 ?_
  refine lv_iconst (v := 1) hx hb dX11_putFour_28 (by decide) ?_
  refine lv_iadd hx hb dX11_putFour_29 ?_
  refine zz_ci (y := 2) (by decide) ?_
  refine va_put (D := (dC, dI)) (ci := 11) (v := .int 2) (ty := .int) (C := RX11) (T := TX11) (N := 16) hx hb hts hiX11 tyX11 tyX11_ok nmX11 hown hK hP hD hS 0 rfl rfl 1 (by decide) (hts (.fieldLink RX11 107 "CakePapers" "taped" "I") (by decide +kernel)) (fun _ h9 => h9) rfl (by decide +kernel) rfl rfl (by simp [hn_fs]) dX11_putFour_30 (fun H locs hP hD hS => ?_)
  have hP : va_P (dC, dI) vwCl [(h0, .inr (11, (List.set (List.set fs 1 (.int 1)) 1 (.int 2)))), (h1, .inl (cI, 1200, .inl f_6))] H := hP
  have hD : va_D A [(h0, .inr (11, (List.set (List.set fs 1 (.int 1)) 1 (.int 2)))), (h1, .inl (cI, 1200, .inl f_6))] := hD
  refine lv_iinc (v := 8) (lv' := [(2, .int 8), (0, .ref h0), (1, .int p0)]) hx hb dX11_putFour_33 hl (k := 0) rfl (by decide) (by decide) rfl (fun ls hl => ?_)
  refine lv_goto (tgt := 3) hx hb dX11_putFour_36 (by decide) ?_
  refine lv_iload_n hx hb dX11_putFour_3 rfl (lv_at hl 0 rfl) ?_
  refine lv_if_lt (tgt := 39) hx hb dX11_putFour_4 (by decide) (fun c_7 => absurd c_7 (by decide)) (fun c_7 => ?_)
  refine lv_aload_n hx hb dX11_putFour_7 rfl (lv_at hl 1 rfl) ?_
  refine va_get (D := (dC, dI)) (ci := 11) (v := .ref h1) (C := RX11) (T := TX11) (N := 16) hx hb hts hiX11 hown hK hP 0 rfl rfl 0 (by decide) (hts (.fieldLink RX11 9 "CakePapers" "tape" "[I") (by decide +kernel)) (fun _ h9 => h9) (by simp [e_fs_0]) dX11_putFour_8 ?_
  refine lv_aload_n hx hb dX11_putFour_11 rfl (lv_at hl 1 rfl) ?_
  refine va_get (D := (dC, dI)) (ci := 11) (v := .int 2) (C := RX11) (T := TX11) (N := 16) hx hb hts hiX11 hown hK hP 0 rfl rfl 1 (by decide) (hts (.fieldLink RX11 107 "CakePapers" "taped" "I") (by decide +kernel)) (fun _ h9 => h9) (by simp [hn_fs]) dX11_putFour_12 ?_
  refine lv_iload_n hx hb dX11_putFour_15 rfl (lv_at hl 2 rfl) ?_
  refine lv_iload_n hx hb dX11_putFour_16 rfl (lv_at hl 0 rfl) ?_
  refine lv_iushr (v := (Int32.toUInt32 p0 >>> (Int32.toUInt32 8 &&& Int32.toUInt32 31)).toInt32) hx hb dX11_putFour_17 rfl ?_
  refine lv_topi (fun v_8 _ => ?_)
  refine lv_sipush (v := 255) hx hb dX11_putFour_18 (by decide) ?_
  refine lv_iand hx hb dX11_putFour_21 ?_
  refine va_iast hx hb hK hP hD hS 1 0 rfl rfl (zz_in (by decide)) dX11_putFour_22 (fun H locs hP hD hS => ?_)
  obtain ⟨f_9, hP, hD⟩ : ∃ f_9 : Nat → Int32, va_P (dC, dI) vwCl [(h0, .inr (11, (List.set (List.set fs 1 (.int 1)) 1 (.int 2)))), (h1, .inl (cI, 1200, .inl f_9))] H ∧ va_D A [(h0, .inr (11, (List.set (List.set fs 1 (.int 1)) 1 (.int 2)))), (h1, .inl (cI, 1200, .inl f_9))] := ⟨_, hP, hD⟩
  refine lv_aload_n hx hb dX11_putFour_23 rfl (lv_at hl 1 rfl) ?_
  refine lv_dup hx hb dX11_putFour_24 rfl ?_
  refine va_get (D := (dC, dI)) (ci := 11) (v := .int 2) (C := RX11) (T := TX11) (N := 16) hx hb hts hiX11 hown hK hP 0 rfl rfl 1 (by decide) (hts (.fieldLink RX11 107 "CakePapers" "taped" "I") (by decide +kernel)) (fun _ h9 => h9) (by simp [hn_fs]) dX11_putFour_25 ?_
  refine lv_iconst (v := 1) hx hb dX11_putFour_28 (by decide) ?_
  refine lv_iadd hx hb dX11_putFour_29 ?_
  refine zz_ci (y := 3) (by decide) ?_
  refine va_put (D := (dC, dI)) (ci := 11) (v := .int 3) (ty := .int) (C := RX11) (T := TX11) (N := 16) hx hb hts hiX11 tyX11 tyX11_ok nmX11 hown hK hP hD hS 0 rfl rfl 1 (by decide) (hts (.fieldLink RX11 107 "CakePapers" "taped" "I") (by decide +kernel)) (fun _ h9 => h9) rfl (by decide +kernel) rfl rfl (by simp [hn_fs]) dX11_putFour_30 (fun H locs hP hD hS => ?_)
  have hP : va_P (dC, dI) vwCl [(h0, .inr (11, (List.set (List.set (List.set fs 1 (.int 1)) 1 (.int 2)) 1 (.int 3)))), (h1, .inl (cI, 1200, .inl f_9))] H := hP
  have hD : va_D A [(h0, .inr (11, (List.set (List.set (List.set fs 1 (.int 1)) 1 (.int 2)) 1 (.int 3)))), (h1, .inl (cI, 1200, .inl f_9))] := hD
  refine lv_iinc (v := 0) (lv' := [(2, .int 0), (0, .ref h0), (1, .int p0)]) hx hb dX11_putFour_33 hl (k := 0) rfl (by decide) (by decide) rfl (fun ls hl => ?_)
  refine lv_goto (tgt := 3) hx hb dX11_putFour_36 (by decide) ?_
  refine lv_iload_n hx hb dX11_putFour_3 rfl (lv_at hl 0 rfl) ?_
  refine lv_if_lt (tgt := 39) hx hb dX11_putFour_4 (by decide) (fun c_10 => absurd c_10 (by decide)) (fun c_10 => ?_)
  refine lv_aload_n hx hb dX11_putFour_7 rfl (lv_at hl 1 rfl) ?_
  refine va_get (D := (dC, dI)) (ci := 11) (v := .ref h1) (C := RX11) (T := TX11) (N := 16) hx hb hts hiX11 hown hK hP 0 rfl rfl 0 (by decide) (hts (.fieldLink RX11 9 "CakePapers" "tape" "[I") (by decide +kernel)) (fun _ h9 => h9) (by simp [e_fs_0]) dX11_putFour_8 ?_
  refine lv_aload_n hx hb dX11_putFour_11 rfl (lv_at hl 1 rfl) ?_
  refine va_get (D := (dC, dI)) (ci := 11) (v := .int 3) (C := RX11) (T := TX11) (N := 16) hx hb hts hiX11 hown hK hP 0 rfl rfl 1 (by decide) (hts (.fieldLink RX11 107 "CakePapers" "taped" "I") (by decide +kernel)) (fun _ h9 => h9) (by simp [hn_fs]) dX11_putFour_12 ?_
  refine lv_iload_n hx hb dX11_putFour_15 rfl (lv_at hl 2 rfl) ?_
  refine lv_iload_n hx hb dX11_putFour_16 rfl (lv_at hl 0 rfl) ?_
  refine lv_iushr (v := (Int32.toUInt32 p0 >>> (Int32.toUInt32 0 &&& Int32.toUInt32 31)).toInt32) hx hb dX11_putFour_17 rfl ?_
  refine lv_topi (fun v_11 _ => ?_)
  refine lv_sipush (v := 255) hx hb dX11_putFour_18 (by decide) ?_
  refine lv_iand hx hb dX11_putFour_21 ?_
  refine va_iast hx hb hK hP hD hS 1 0 rfl rfl (zz_in (by decide)) dX11_putFour_22 (fun H locs hP hD hS => ?_)
  obtain ⟨f_12, hP, hD⟩ : ∃ f_12 : Nat → Int32, va_P (dC, dI) vwCl [(h0, .inr (11, (List.set (List.set (List.set fs 1 (.int 1)) 1 (.int 2)) 1 (.int 3)))), (h1, .inl (cI, 1200, .inl f_12))] H ∧ va_D A [(h0, .inr (11, (List.set (List.set (List.set fs 1 (.int 1)) 1 (.int 2)) 1 (.int 3)))), (h1, .inl (cI, 1200, .inl f_12))] := ⟨_, hP, hD⟩
  refine lv_aload_n hx hb dX11_putFour_23 rfl (lv_at hl 1 rfl) ?_
  refine lv_dup hx hb dX11_putFour_24 rfl ?_
  refine va_get (D := (dC, dI)) (ci := 11) (v := .int 3) (C := RX11) (T := TX11) (N := 16) hx hb hts hiX11 hown hK hP 0 rfl rfl 1 (by decide) (hts (.fieldLink RX11 107 "CakePapers" "taped" "I") (by decide +kernel)) (fun _ h9 => h9) (by simp [hn_fs]) dX11_putFour_25 ?_
  refine lv_iconst (v := 1) hx hb dX11_putFour_28 (by decide) ?_
  refine lv_iadd hx hb dX11_putFour_29 ?_
  refine zz_ci (y := 4) (by decide) ?_
  refine va_put (D := (dC, dI)) (ci := 11) (v := .int 4) (ty := .int) (C := RX11) (T := TX11) (N := 16) hx hb hts hiX11 tyX11 tyX11_ok nmX11 hown hK hP hD hS 0 rfl rfl 1 (by decide) (hts (.fieldLink RX11 107 "CakePapers" "taped" "I") (by decide +kernel)) (fun _ h9 => h9) rfl (by decide +kernel) rfl rfl (by simp [hn_fs]) dX11_putFour_30 (fun H locs hP hD hS => ?_)
  have hP : va_P (dC, dI) vwCl [(h0, .inr (11, (List.set (List.set (List.set (List.set fs 1 (.int 1)) 1 (.int 2)) 1 (.int 3)) 1 (.int 4)))), (h1, .inl (cI, 1200, .inl f_12))] H := hP
  have hD : va_D A [(h0, .inr (11, (List.set (List.set (List.set (List.set fs 1 (.int 1)) 1 (.int 2)) 1 (.int 3)) 1 (.int 4)))), (h1, .inl (cI, 1200, .inl f_12))] := hD
  refine lv_iinc (v := (-8)) (lv' := [(2, .int (-8)), (0, .ref h0), (1, .int p0)]) hx hb dX11_putFour_33 hl (k := 0) rfl (by decide) (by decide) rfl (fun ls hl => ?_)
  refine lv_goto (tgt := 3) hx hb dX11_putFour_36 (by decide) ?_
  refine lv_iload_n hx hb dX11_putFour_3 rfl (lv_at hl 0 rfl) ?_
  refine lv_if_lt (tgt := 39) hx hb dX11_putFour_4 (by decide) (fun c_13 => ?_) (fun c_13 => absurd c_13 (by decide))
  refine W.widen (k := 0) (n := 0) (Nat.le_of_ble_eq_true rfl) (Nat.le_of_ble_eq_true rfl) ?_
  have hP9 := hP.sub (ws' := [(h0, .inr (11, (List.set (List.set (List.set (List.set fs 1 (.int 1)) 1 (.int 2)) 1 (.int 3)) 1 (.int 4)))), (h1, .inl (cI, 1200, .inl f_12))]) [0, 1] rfl
  have hD9 := hD.sub (ws' := [(h0, .inr (11, (List.set (List.set (List.set (List.set fs 1 (.int 1)) 1 (.int 2)) 1 (.int 3)) 1 (.int 4)))), (h1, .inl (cI, 1200, .inl f_12))]) [0, 1] (by decide) rfl
  exact W.vret hx hb hr (fun t ht hW => ⟨⟨(), rfl, trivial, f_12, by rw [ht]; exact hP9, hD9⟩, hS.F ht⟩) hS.2.2 dX11_putFour_39
def u_c_X11_putFour_4 : List Cond := .code yX11_putFour cX11_putFour 3 none :: ([.fieldLink RX11 9 "CakePapers" "tape" "[I", .fieldLink RX11 107 "CakePapers" "taped" "I"] ++ wsX110)
theorem iX11_c_X11_putFour_4 : ∀ w ∈ wsX110, w ∈ u_c_X11_putFour_4 := fun w h => List.mem_cons_of_mem _ (List.mem_append_right _ h)
set_option maxHeartbeats 1000000 in
set_option maxRecDepth 100000 in
theorem c_X11_putFour_4 (l : Launch) (dC : Nat → ClassId) (dI : Nat → Nat → Nat) (sz : Nat) (h0 h1 : Nat) (cI : ClassId) (f : Nat → Int32) (fs : List Value) (hn_fs : fs.length = 16) (e_fs_0 : fs[0]? = some (.ref h1)) (e_fs_1 : fs[1]? = some (.int 4)) (p0 : Int32) : Met l yX11_putFour u_c_X11_putFour_4 ({ frames := 0, cells := 0, slots := 0, locals := 0 }) (va_Pc [.ref h0, .int p0] (fun U => U.heap.size = sz ∧ va_P (dC, dI) vwCl [(h0, .inr (11, fs)), (h1, .inl (cI, 1200, .inl f))] U.heap ∧ va_K (dC, dI) vwCl [(cI, .int)] U ∧ va_D (fun _ => True) [(h0, .inr (11, fs)), (h1, .inl (cI, 1200, .inl f))])) (va_Qv (fun (_ : Unit) => True) (fun _ t => ∃ (f_12 : Nat → Int32), va_P (dC, dI) vwCl [(h0, .inr (11, (List.set (List.set (List.set (List.set fs 1 (.int 5)) 1 (.int 6)) 1 (.int 7)) 1 (.int 8)))), (h1, .inl (cI, 1200, .inl f_12))] t.heap ∧ va_D (va_A [(h0, .inr (11, fs)), (h1, .inl (cI, 1200, .inl f))] sz) [(h0, .inr (11, (List.set (List.set (List.set (List.set fs 1 (.int 5)) 1 (.int 6)) 1 (.int 7)) 1 (.int 8)))), (h1, .inl (cI, 1200, .inl f_12))]) (va_A [(h0, .inr (11, fs)), (h1, .inl (cI, 1200, .inl f))] sz)) 0 0 (va_A [(h0, .inr (11, fs)), (h1, .inl (cI, 1200, .inl f))] sz) := by
  refine Met.ofW (cc := cX11_putFour) (maxL := 3) (ret := none) (by decide) rfl ?_
  intro p e s m args below meth c s₁ B hml hv
  obtain ⟨rfl, hsz, hP, hK, hD0⟩ := hv
  have hx := B.exec
  have hb := B.bytes
  have hr := B.returns
  have hts := atoms_spec (ws := u_c_X11_putFour_4) B.pre
  have hown : s.vm.findClass RX11 = some m.cls := findClass_of_methodNamed B.named
  have hlocks := B.notSynchronized
  have hiX11 := iX11_c_X11_putFour_4
  subst hsz
  have hD := hD0.self (sz := s.heap.size)
  generalize hAe : va_A [(h0, .inr (11, fs)), (h1, .inl (cI, 1200, .inl f))] s.heap.size = A at hD ⊢
  have hA : ∀ q : Nat, s.heap.size ≤ q → A q := fun q h => by rw [← hAe]; exact Or.inr h
  have hS : va_S A s.heap s.heap [] := va_S.rf
  obtain ⟨H, hH⟩ : ∃ H : Heap, H = s.heap := ⟨_, rfl⟩
  have hP : va_P (dC, dI) vwCl [(h0, .inr (11, fs)), (h1, .inl (cI, 1200, .inl f))] H := by rw [hH]; exact hP
  have hS : va_S A s.heap H [] := by rw [hH]; exact hS
  have hl := lv_entry ([.ref h0, .int p0]) (n := 3) (Nat.le_of_ble_eq_true rfl)
  rw [lg_entry_eq]
  generalize (lg_sl ([.ref h0, .int p0]) ++ List.replicate (3 - (lg_sl ([.ref h0, .int p0])).length) Slot.unset).toArray = ls at hl ⊢
  have hl : lv_has ls 3 [(0, .ref h0), (1, .int p0)] := hl
  suffices h9 : W p l e (headSpec u_c_X11_putFour_4 _).room s m _ below meth c H [] 0 0 _ (F0 m 0 ls []) by rw [hH] at h9; exact h9
  refine lv_bipush (v := 24) hx hb dX11_putFour_0 (by decide) ?_
  refine lv_istore_n (lv' := [(2, .int 24), (0, .ref h0), (1, .int p0)]) hx hb dX11_putFour_2 rfl hl (by decide) rfl (fun ls hl => ?_)
  refine lv_iload_n hx hb dX11_putFour_3 rfl (lv_at hl 0 rfl) ?_
  refine lv_if_lt (tgt := 39) hx hb dX11_putFour_4 (by decide) (fun c_1 => absurd c_1 (by decide)) (fun c_1 => ?_)
  refine lv_aload_n hx hb dX11_putFour_7 rfl (lv_at hl 1 rfl) ?_
  refine va_get (D := (dC, dI)) (ci := 11) (v := .ref h1) (C := RX11) (T := TX11) (N := 16) hx hb hts hiX11 hown hK hP 0 rfl rfl 0 (by decide) (hts (.fieldLink RX11 9 "CakePapers" "tape" "[I") (by decide +kernel)) (fun _ h9 => h9) e_fs_0 dX11_putFour_8 ?_
  refine lv_aload_n hx hb dX11_putFour_11 rfl (lv_at hl 1 rfl) ?_
  refine va_get (D := (dC, dI)) (ci := 11) (v := .int 4) (C := RX11) (T := TX11) (N := 16) hx hb hts hiX11 hown hK hP 0 rfl rfl 1 (by decide) (hts (.fieldLink RX11 107 "CakePapers" "taped" "I") (by decide +kernel)) (fun _ h9 => h9) e_fs_1 dX11_putFour_12 ?_
  refine lv_iload_n hx hb dX11_putFour_15 rfl (lv_at hl 2 rfl) ?_
  refine lv_iload_n hx hb dX11_putFour_16 rfl (lv_at hl 0 rfl) ?_
  refine lv_iushr (v := (Int32.toUInt32 p0 >>> (Int32.toUInt32 24 &&& Int32.toUInt32 31)).toInt32) hx hb dX11_putFour_17 rfl ?_
  refine lv_topi (fun v_2 _ => ?_)
  refine lv_sipush (v := 255) hx hb dX11_putFour_18 (by decide) ?_
  refine lv_iand hx hb dX11_putFour_21 ?_
  refine va_iast hx hb hK hP hD hS 1 0 rfl rfl (zz_in (by decide)) dX11_putFour_22 (fun H locs hP hD hS => ?_)
  obtain ⟨f_3, hP, hD⟩ : ∃ f_3 : Nat → Int32, va_P (dC, dI) vwCl [(h0, .inr (11, fs)), (h1, .inl (cI, 1200, .inl f_3))] H ∧ va_D A [(h0, .inr (11, fs)), (h1, .inl (cI, 1200, .inl f_3))] := ⟨_, hP, hD⟩
  refine lv_aload_n hx hb dX11_putFour_23 rfl (lv_at hl 1 rfl) ?_
  refine lv_dup hx hb dX11_putFour_24 rfl ?_
  refine va_get (D := (dC, dI)) (ci := 11) (v := .int 4) (C := RX11) (T := TX11) (N := 16) hx hb hts hiX11 hown hK hP 0 rfl rfl 1 (by decide) (hts (.fieldLink RX11 107 "CakePapers" "taped" "I") (by decide +kernel)) (fun _ h9 => h9) e_fs_1 dX11_putFour_25 ?_
  refine lv_iconst (v := 1) hx hb dX11_putFour_28 (by decide) ?_
  refine lv_iadd hx hb dX11_putFour_29 ?_
  refine zz_ci (y := 5) (by decide) ?_
  refine va_put (D := (dC, dI)) (ci := 11) (v := .int 5) (ty := .int) (C := RX11) (T := TX11) (N := 16) hx hb hts hiX11 tyX11 tyX11_ok nmX11 hown hK hP hD hS 0 rfl rfl 1 (by decide) (hts (.fieldLink RX11 107 "CakePapers" "taped" "I") (by decide +kernel)) (fun _ h9 => h9) rfl (by decide +kernel) rfl rfl (by simp [hn_fs]) dX11_putFour_30 (fun H locs hP hD hS => ?_)
  have hP : va_P (dC, dI) vwCl [(h0, .inr (11, (List.set fs 1 (.int 5)))), (h1, .inl (cI, 1200, .inl f_3))] H := hP
  have hD : va_D A [(h0, .inr (11, (List.set fs 1 (.int 5)))), (h1, .inl (cI, 1200, .inl f_3))] := hD
  refine lv_iinc (v := 16) (lv' := [(2, .int 16), (0, .ref h0), (1, .int p0)]) hx hb dX11_putFour_33 hl (k := 0) rfl (by decide) (by decide) rfl (fun ls hl => ?_)
  refine lv_goto (tgt := 3) hx hb dX11_putFour_36 (by decide) ?_
  refine lv_iload_n hx hb dX11_putFour_3 rfl (lv_at hl 0 rfl) ?_
  refine lv_if_lt (tgt := 39) hx hb dX11_putFour_4 (by decide) (fun c_4 => absurd c_4 (by decide)) (fun c_4 => ?_)
  refine lv_aload_n hx hb dX11_putFour_7 rfl (lv_at hl 1 rfl) ?_
  refine va_get (D := (dC, dI)) (ci := 11) (v := .ref h1) (C := RX11) (T := TX11) (N := 16) hx hb hts hiX11 hown hK hP 0 rfl rfl 0 (by decide) (hts (.fieldLink RX11 9 "CakePapers" "tape" "[I") (by decide +kernel)) (fun _ h9 => h9) (by simp [e_fs_0]) dX11_putFour_8 ?_
  refine lv_aload_n hx hb dX11_putFour_11 rfl (lv_at hl 1 rfl) ?_
  refine va_get (D := (dC, dI)) (ci := 11) (v := .int 5) (C := RX11) (T := TX11) (N := 16) hx hb hts hiX11 hown hK hP 0 rfl rfl 1 (by decide) (hts (.fieldLink RX11 107 "CakePapers" "taped" "I") (by decide +kernel)) (fun _ h9 => h9) (by simp [hn_fs]) dX11_putFour_12 ?_
  refine lv_iload_n hx hb dX11_putFour_15 rfl (lv_at hl 2 rfl) ?_
  refine lv_iload_n hx hb dX11_putFour_16 rfl (lv_at hl 0 rfl) ?_
  refine lv_iushr (v := (Int32.toUInt32 p0 >>> (Int32.toUInt32 16 &&& Int32.toUInt32 31)).toInt32) hx hb dX11_putFour_17 rfl ?_
  refine lv_topi (fun v_5 _ => ?_)
  refine lv_sipush (v := 255) hx hb dX11_putFour_18 (by decide) ?_
  refine lv_iand hx hb dX11_putFour_21 ?_
  refine va_iast hx hb hK hP hD hS 1 0 rfl rfl (zz_in (by decide)) dX11_putFour_22 (fun H locs hP hD hS => ?_)
  obtain ⟨f_6, hP, hD⟩ : ∃ f_6 : Nat → Int32, va_P (dC, dI) vwCl [(h0, .inr (11, (List.set fs 1 (.int 5)))), (h1, .inl (cI, 1200, .inl f_6))] H ∧ va_D A [(h0, .inr (11, (List.set fs 1 (.int 5)))), (h1, .inl (cI, 1200, .inl f_6))] := ⟨_, hP, hD⟩
  refine lv_aload_n hx hb dX11_putFour_23 rfl (lv_at hl 1 rfl) ?_
  refine lv_dup hx hb dX11_putFour_24 rfl ?_
  refine va_get (D := (dC, dI)) (ci := 11) (v := .int 5) (C := RX11) (T := TX11) (N := 16) hx hb hts hiX11 hown hK hP 0 rfl rfl 1 (by decide) (hts (.fieldLink RX11 107 "CakePapers" "taped" "I") (by decide +kernel)) (fun _ h9 => h9) (by simp [hn_fs]) dX11_putFour_25 ?_
  refine lv_iconst (v := 1) hx hb dX11_putFour_28 (by decide) ?_
  refine lv_iadd hx hb dX11_putFour_29 ?_
  refine zz_ci (y := 6) (by decide) ?_
  refine va_put (D := (dC, dI)) (ci := 11) (v := .int 6) (ty := .int) (C := RX11) (T := TX11) (N := 16) hx hb hts hiX11 tyX11 tyX11_ok nmX11 hown hK hP hD hS 0 rfl rfl 1 (by decide) (hts (.fieldLink RX11 107 "CakePapers" "taped" "I") (by decide +kernel)) (fun _ h9 => h9) rfl (by decide +kernel) rfl rfl (by simp [hn_fs]) dX11_putFour_30 (fun H locs hP hD hS => ?_)
  have hP : va_P (dC, dI) vwCl [(h0, .inr (11, (List.set (List.set fs 1 (.int 5)) 1 (.int 6)))), (h1, .inl (cI, 1200, .inl f_6))] H := hP
  have hD : va_D A [(h0, .inr (11, (List.set (List.set fs 1 (.int 5)) 1 (.int 6)))), (h1, .inl (cI, 1200, .inl f_6))] := hD
  refine lv_iinc (v := 8) (lv' := [(2, .int 8), (0, .ref h0), (1, .int p0)]) hx hb dX11_putFour_33 hl (k := 0) rfl (by decide) (by decide) rfl (fun ls hl => ?_)
  refine lv_goto (tgt := 3) hx hb dX11_putFour_36 (by decide) ?_
  refine lv_iload_n hx hb dX11_putFour_3 rfl (lv_at hl 0 rfl) ?_
  refine lv_if_lt (tgt := 39) hx hb dX11_putFour_4 (by decide) (fun c_7 => absurd c_7 (by decide)) (fun c_7 => ?_)
  refine lv_aload_n hx hb dX11_putFour_7 rfl (lv_at hl 1 rfl) ?_
  refine va_get (D := (dC, dI)) (ci := 11) (v := .ref h1) (C := RX11) (T := TX11) (N := 16) hx hb hts hiX11 hown hK hP 0 rfl rfl 0 (by decide) (hts (.fieldLink RX11 9 "CakePapers" "tape" "[I") (by decide +kernel)) (fun _ h9 => h9) (by simp [e_fs_0]) dX11_putFour_8 ?_
  refine lv_aload_n hx hb dX11_putFour_11 rfl (lv_at hl 1 rfl) ?_
  refine va_get (D := (dC, dI)) (ci := 11) (v := .int 6) (C := RX11) (T := TX11) (N := 16) hx hb hts hiX11 hown hK hP 0 rfl rfl 1 (by decide) (hts (.fieldLink RX11 107 "CakePapers" "taped" "I") (by decide +kernel)) (fun _ h9 => h9) (by simp [hn_fs]) dX11_putFour_12 ?_
  refine lv_iload_n hx hb dX11_putFour_15 rfl (lv_at hl 2 rfl) ?_
  refine lv_iload_n hx hb dX11_putFour_16 rfl (lv_at hl 0 rfl) ?_
  refine lv_iushr (v := (Int32.toUInt32 p0 >>> (Int32.toUInt32 8 &&& Int32.toUInt32 31)).toInt32) hx hb dX11_putFour_17 rfl ?_
  refine lv_topi (fun v_8 _ => ?_)
  refine lv_sipush (v := 255) hx hb dX11_putFour_18 (by decide) ?_
  refine lv_iand hx hb dX11_putFour_21 ?_
  refine va_iast hx hb hK hP hD hS 1 0 rfl rfl (zz_in (by decide)) dX11_putFour_22 (fun H locs hP hD hS => ?_)
  obtain ⟨f_9, hP, hD⟩ : ∃ f_9 : Nat → Int32, va_P (dC, dI) vwCl [(h0, .inr (11, (List.set (List.set fs 1 (.int 5)) 1 (.int 6)))), (h1, .inl (cI, 1200, .inl f_9))] H ∧ va_D A [(h0, .inr (11, (List.set (List.set fs 1 (.int 5)) 1 (.int 6)))), (h1, .inl (cI, 1200, .inl f_9))] := ⟨_, hP, hD⟩
  refine lv_aload_n hx hb dX11_putFour_23 rfl (lv_at hl 1 rfl) ?_
  refine lv_dup hx hb dX11_putFour_24 rfl ?_
  refine va_get (D := (dC, dI)) (ci := 11) (v := .int 6) (C := RX11) (T := TX11) (N := 16) hx hb hts hiX11 hown hK hP 0 rfl rfl 1 (by decide) (hts (.fieldLink RX11 107 "CakePapers" "taped" "I") (by decide +kernel)) (fun _ h9 => h9) (by simp [hn_fs]) dX11_putFour_25 ?_
  refine lv_iconst (v := 1) hx hb dX11_putFour_28 (by decide) ?_
  refine lv_iadd hx hb dX11_putFour_29 ?_
  refine zz_ci (y := 7) (by decide) ?_
  refine va_put (D := (dC, dI)) (ci := 11) (v := .int 7) (ty := .int) (C := RX11) (T := TX11) (N := 16) hx hb hts hiX11 tyX11 tyX11_ok nmX11 hown hK hP hD hS 0 rfl rfl 1 (by decide) (hts (.fieldLink RX11 107 "CakePapers" "taped" "I") (by decide +kernel)) (fun _ h9 => h9) rfl (by decide +kernel) rfl rfl (by simp [hn_fs]) dX11_putFour_30 (fun H locs hP hD hS => ?_)
  have hP : va_P (dC, dI) vwCl [(h0, .inr (11, (List.set (List.set (List.set fs 1 (.int 5)) 1 (.int 6)) 1 (.int 7)))), (h1, .inl (cI, 1200, .inl f_9))] H := hP
  have hD : va_D A [(h0, .inr (11, (List.set (List.set (List.set fs 1 (.int 5)) 1 (.int 6)) 1 (.int 7)))), (h1, .inl (cI, 1200, .inl f_9))] := hD
  refine lv_iinc (v := 0) (lv' := [(2, .int 0), (0, .ref h0), (1, .int p0)]) hx hb dX11_putFour_33 hl (k := 0) rfl (by decide) (by decide) rfl (fun ls hl => ?_)
  refine lv_goto (tgt := 3) hx hb dX11_putFour_36 (by decide) ?_
  refine lv_iload_n hx hb dX11_putFour_3 rfl (lv_at hl 0 rfl) ?_
  refine lv_if_lt (tgt := 39) hx hb dX11_putFour_4 (by decide) (fun c_10 => absurd c_10 (by decide)) (fun c_10 => ?_)
  refine lv_aload_n hx hb dX11_putFour_7 rfl (lv_at hl 1 rfl) ?_
  refine va_get (D := (dC, dI)) (ci := 11) (v := .ref h1) (C := RX11) (T := TX11) (N := 16) hx hb hts hiX11 hown hK hP 0 rfl rfl 0 (by decide) (hts (.fieldLink RX11 9 "CakePapers" "tape" "[I") (by decide +kernel)) (fun _ h9 => h9) (by simp [e_fs_0]) dX11_putFour_8 ?_
  refine lv_aload_n hx hb dX11_putFour_11 rfl (lv_at hl 1 rfl) ?_
  refine va_get (D := (dC, dI)) (ci := 11) (v := .int 7) (C := RX11) (T := TX11) (N := 16) hx hb hts hiX11 hown hK hP 0 rfl rfl 1 (by decide) (hts (.fieldLink RX11 107 "CakePapers" "taped" "I") (by decide +kernel)) (fun _ h9 => h9) (by simp [hn_fs]) dX11_putFour_12 ?_
  refine lv_iload_n hx hb dX11_putFour_15 rfl (lv_at hl 2 rfl) ?_
  refine lv_iload_n hx hb dX11_putFour_16 rfl (lv_at hl 0 rfl) ?_
  refine lv_iushr (v := (Int32.toUInt32 p0 >>> (Int32.toUInt32 0 &&& Int32.toUInt32 31)).toInt32) hx hb dX11_putFour_17 rfl ?_
  refine lv_topi (fun v_11 _ => ?_)
  refine lv_sipush (v := 255) hx hb dX11_putFour_18 (by decide) ?_
  refine lv_iand hx hb dX11_putFour_21 ?_
  refine va_iast hx hb hK hP hD hS 1 0 rfl rfl (zz_in (by decide)) dX11_putFour_22 (fun H locs hP hD hS => ?_)
  obtain ⟨f_12, hP, hD⟩ : ∃ f_12 : Nat → Int32, va_P (dC, dI) vwCl [(h0, .inr (11, (List.set (List.set (List.set fs 1 (.int 5)) 1 (.int 6)) 1 (.int 7)))), (h1, .inl (cI, 1200, .inl f_12))] H ∧ va_D A [(h0, .inr (11, (List.set (List.set (List.set fs 1 (.int 5)) 1 (.int 6)) 1 (.int 7)))), (h1, .inl (cI, 1200, .inl f_12))] := ⟨_, hP, hD⟩
  refine lv_aload_n hx hb dX11_putFour_23 rfl (lv_at hl 1 rfl) ?_
  refine lv_dup hx hb dX11_putFour_24 rfl ?_
  refine va_get (D := (dC, dI)) (ci := 11) (v := .int 7) (C := RX11) (T := TX11) (N := 16) hx hb hts hiX11 hown hK hP 0 rfl rfl 1 (by decide) (hts (.fieldLink RX11 107 "CakePapers" "taped" "I") (by decide +kernel)) (fun _ h9 => h9) (by simp [hn_fs]) dX11_putFour_25 ?_
  refine lv_iconst (v := 1) hx hb dX11_putFour_28 (by decide) ?_
  refine lv_iadd hx hb dX11_putFour_29 ?_
  refine zz_ci (y := 8) (by decide) ?_
  refine va_put (D := (dC, dI)) (ci := 11) (v := .int 8) (ty := .int) (C := RX11) (T := TX11) (N := 16) hx hb hts hiX11 tyX11 tyX11_ok nmX11 hown hK hP hD hS 0 rfl rfl 1 (by decide) (hts (.fieldLink RX11 107 "CakePapers" "taped" "I") (by decide +kernel)) (fun _ h9 => h9) rfl (by decide +kernel) rfl rfl (by simp [hn_fs]) dX11_putFour_30 (fun H locs hP hD hS => ?_)
  have hP : va_P (dC, dI) vwCl [(h0, .inr (11, (List.set (List.set (List.set (List.set fs 1 (.int 5)) 1 (.int 6)) 1 (.int 7)) 1 (.int 8)))), (h1, .inl (cI, 1200, .inl f_12))] H := hP
  have hD : va_D A [(h0, .inr (11, (List.set (List.set (List.set (List.set fs 1 (.int 5)) 1 (.int 6)) 1 (.int 7)) 1 (.int 8)))), (h1, .inl (cI, 1200, .inl f_12))] := hD
  refine lv_iinc (v := (-8)) (lv' := [(2, .int (-8)), (0, .ref h0), (1, .int p0)]) hx hb dX11_putFour_33 hl (k := 0) rfl (by decide) (by decide) rfl (fun ls hl => ?_)
  refine lv_goto (tgt := 3) hx hb dX11_putFour_36 (by decide) ?_
  refine lv_iload_n hx hb dX11_putFour_3 rfl (lv_at hl 0 rfl) ?_
  refine lv_if_lt (tgt := 39) hx hb dX11_putFour_4 (by decide) (fun c_13 => ?_) (fun c_13 => absurd c_13 (by decide))
  refine W.widen (k := 0) (n := 0) (Nat.le_of_ble_eq_true rfl) (Nat.le_of_ble_eq_true rfl) ?_
  have hP9 := hP.sub (ws' := [(h0, .inr (11, (List.set (List.set (List.set (List.set fs 1 (.int 5)) 1 (.int 6)) 1 (.int 7)) 1 (.int 8)))), (h1, .inl (cI, 1200, .inl f_12))]) [0, 1] rfl
  have hD9 := hD.sub (ws' := [(h0, .inr (11, (List.set (List.set (List.set (List.set fs 1 (.int 5)) 1 (.int 6)) 1 (.int 7)) 1 (.int 8)))), (h1, .inl (cI, 1200, .inl f_12))]) [0, 1] (by decide) rfl
  exact W.vret hx hb hr (fun t ht hW => ⟨⟨(), rfl, trivial, f_12, by rw [ht]; exact hP9, hD9⟩, hS.F ht⟩) hS.2.2 dX11_putFour_39
def u_c_X11_putFour_8 : List Cond := .code yX11_putFour cX11_putFour 3 none :: ([.fieldLink RX11 9 "CakePapers" "tape" "[I", .fieldLink RX11 107 "CakePapers" "taped" "I"] ++ wsX110)
theorem iX11_c_X11_putFour_8 : ∀ w ∈ wsX110, w ∈ u_c_X11_putFour_8 := fun w h => List.mem_cons_of_mem _ (List.mem_append_right _ h)
set_option maxHeartbeats 1000000 in
set_option maxRecDepth 100000 in
theorem c_X11_putFour_8 (l : Launch) (dC : Nat → ClassId) (dI : Nat → Nat → Nat) (sz : Nat) (h0 h1 : Nat) (cI : ClassId) (f : Nat → Int32) (fs : List Value) (hn_fs : fs.length = 16) (e_fs_0 : fs[0]? = some (.ref h1)) (e_fs_1 : fs[1]? = some (.int 8)) (p0 : Int32) : Met l yX11_putFour u_c_X11_putFour_8 ({ frames := 0, cells := 0, slots := 0, locals := 0 }) (va_Pc [.ref h0, .int p0] (fun U => U.heap.size = sz ∧ va_P (dC, dI) vwCl [(h0, .inr (11, fs)), (h1, .inl (cI, 1200, .inl f))] U.heap ∧ va_K (dC, dI) vwCl [(cI, .int)] U ∧ va_D (fun _ => True) [(h0, .inr (11, fs)), (h1, .inl (cI, 1200, .inl f))])) (va_Qv (fun (_ : Unit) => True) (fun _ t => ∃ (f_12 : Nat → Int32), va_P (dC, dI) vwCl [(h0, .inr (11, (List.set (List.set (List.set (List.set fs 1 (.int 9)) 1 (.int 10)) 1 (.int 11)) 1 (.int 12)))), (h1, .inl (cI, 1200, .inl f_12))] t.heap ∧ va_D (va_A [(h0, .inr (11, fs)), (h1, .inl (cI, 1200, .inl f))] sz) [(h0, .inr (11, (List.set (List.set (List.set (List.set fs 1 (.int 9)) 1 (.int 10)) 1 (.int 11)) 1 (.int 12)))), (h1, .inl (cI, 1200, .inl f_12))]) (va_A [(h0, .inr (11, fs)), (h1, .inl (cI, 1200, .inl f))] sz)) 0 0 (va_A [(h0, .inr (11, fs)), (h1, .inl (cI, 1200, .inl f))] sz) := by
  refine Met.ofW (cc := cX11_putFour) (maxL := 3) (ret := none) (by decide) rfl ?_
  intro p e s m args below meth c s₁ B hml hv
  obtain ⟨rfl, hsz, hP, hK, hD0⟩ := hv
  have hx := B.exec
  have hb := B.bytes
  have hr := B.returns
  have hts := atoms_spec (ws := u_c_X11_putFour_8) B.pre
  have hown : s.vm.findClass RX11 = some m.cls := findClass_of_methodNamed B.named
  have hlocks := B.notSynchronized
  have hiX11 := iX11_c_X11_putFour_8
  subst hsz
  have hD := hD0.self (sz := s.heap.size)
  generalize hAe : va_A [(h0, .inr (11, fs)), (h1, .inl (cI, 1200, .inl f))] s.heap.size = A at hD ⊢
  have hA : ∀ q : Nat, s.heap.size ≤ q → A q := fun q h => by rw [← hAe]; exact Or.inr h
  have hS : va_S A s.heap s.heap [] := va_S.rf
  obtain ⟨H, hH⟩ : ∃ H : Heap, H = s.heap := ⟨_, rfl⟩
  have hP : va_P (dC, dI) vwCl [(h0, .inr (11, fs)), (h1, .inl (cI, 1200, .inl f))] H := by rw [hH]; exact hP
  have hS : va_S A s.heap H [] := by rw [hH]; exact hS
  have hl := lv_entry ([.ref h0, .int p0]) (n := 3) (Nat.le_of_ble_eq_true rfl)
  rw [lg_entry_eq]
  generalize (lg_sl ([.ref h0, .int p0]) ++ List.replicate (3 - (lg_sl ([.ref h0, .int p0])).length) Slot.unset).toArray = ls at hl ⊢
  have hl : lv_has ls 3 [(0, .ref h0), (1, .int p0)] := hl
  suffices h9 : W p l e (headSpec u_c_X11_putFour_8 _).room s m _ below meth c H [] 0 0 _ (F0 m 0 ls []) by rw [hH] at h9; exact h9
  refine lv_bipush (v := 24) hx hb dX11_putFour_0 (by decide) ?_
  refine lv_istore_n (lv' := [(2, .int 24), (0, .ref h0), (1, .int p0)]) hx hb dX11_putFour_2 rfl hl (by decide) rfl (fun ls hl => ?_)
  refine lv_iload_n hx hb dX11_putFour_3 rfl (lv_at hl 0 rfl) ?_
  refine lv_if_lt (tgt := 39) hx hb dX11_putFour_4 (by decide) (fun c_1 => absurd c_1 (by decide)) (fun c_1 => ?_)
  refine lv_aload_n hx hb dX11_putFour_7 rfl (lv_at hl 1 rfl) ?_
  refine va_get (D := (dC, dI)) (ci := 11) (v := .ref h1) (C := RX11) (T := TX11) (N := 16) hx hb hts hiX11 hown hK hP 0 rfl rfl 0 (by decide) (hts (.fieldLink RX11 9 "CakePapers" "tape" "[I") (by decide +kernel)) (fun _ h9 => h9) e_fs_0 dX11_putFour_8 ?_
  refine lv_aload_n hx hb dX11_putFour_11 rfl (lv_at hl 1 rfl) ?_
  refine va_get (D := (dC, dI)) (ci := 11) (v := .int 8) (C := RX11) (T := TX11) (N := 16) hx hb hts hiX11 hown hK hP 0 rfl rfl 1 (by decide) (hts (.fieldLink RX11 107 "CakePapers" "taped" "I") (by decide +kernel)) (fun _ h9 => h9) e_fs_1 dX11_putFour_12 ?_
  refine lv_iload_n hx hb dX11_putFour_15 rfl (lv_at hl 2 rfl) ?_
  refine lv_iload_n hx hb dX11_putFour_16 rfl (lv_at hl 0 rfl) ?_
  refine lv_iushr (v := (Int32.toUInt32 p0 >>> (Int32.toUInt32 24 &&& Int32.toUInt32 31)).toInt32) hx hb dX11_putFour_17 rfl ?_
  refine lv_topi (fun v_2 _ => ?_)
  refine lv_sipush (v := 255) hx hb dX11_putFour_18 (by decide) ?_
  refine lv_iand hx hb dX11_putFour_21 ?_
  refine va_iast hx hb hK hP hD hS 1 0 rfl rfl (zz_in (by decide)) dX11_putFour_22 (fun H locs hP hD hS => ?_)
  obtain ⟨f_3, hP, hD⟩ : ∃ f_3 : Nat → Int32, va_P (dC, dI) vwCl [(h0, .inr (11, fs)), (h1, .inl (cI, 1200, .inl f_3))] H ∧ va_D A [(h0, .inr (11, fs)), (h1, .inl (cI, 1200, .inl f_3))] := ⟨_, hP, hD⟩
  refine lv_aload_n hx hb dX11_putFour_23 rfl (lv_at hl 1 rfl) ?_
  refine lv_dup hx hb dX11_putFour_24 rfl ?_
  refine va_get (D := (dC, dI)) (ci := 11) (v := .int 8) (C := RX11) (T := TX11) (N := 16) hx hb hts hiX11 hown hK hP 0 rfl rfl 1 (by decide) (hts (.fieldLink RX11 107 "CakePapers" "taped" "I") (by decide +kernel)) (fun _ h9 => h9) e_fs_1 dX11_putFour_25 ?_
  refine lv_iconst (v := 1) hx hb dX11_putFour_28 (by decide) ?_
  refine lv_iadd hx hb dX11_putFour_29 ?_
  refine zz_ci (y := 9) (by decide) ?_
  refine va_put (D := (dC, dI)) (ci := 11) (v := .int 9) (ty := .int) (C := RX11) (T := TX11) (N := 16) hx hb hts hiX11 tyX11 tyX11_ok nmX11 hown hK hP hD hS 0 rfl rfl 1 (by decide) (hts (.fieldLink RX11 107 "CakePapers" "taped" "I") (by decide +kernel)) (fun _ h9 => h9) rfl (by decide +kernel) rfl rfl (by simp [hn_fs]) dX11_putFour_30 (fun H locs hP hD hS => ?_)
  have hP : va_P (dC, dI) vwCl [(h0, .inr (11, (List.set fs 1 (.int 9)))), (h1, .inl (cI, 1200, .inl f_3))] H := hP
  have hD : va_D A [(h0, .inr (11, (List.set fs 1 (.int 9)))), (h1, .inl (cI, 1200, .inl f_3))] := hD
  refine lv_iinc (v := 16) (lv' := [(2, .int 16), (0, .ref h0), (1, .int p0)]) hx hb dX11_putFour_33 hl (k := 0) rfl (by decide) (by decide) rfl (fun ls hl => ?_)
  refine lv_goto (tgt := 3) hx hb dX11_putFour_36 (by decide) ?_
  refine lv_iload_n hx hb dX11_putFour_3 rfl (lv_at hl 0 rfl) ?_
  refine lv_if_lt (tgt := 39) hx hb dX11_putFour_4 (by decide) (fun c_4 => absurd c_4 (by decide)) (fun c_4 => ?_)
  refine lv_aload_n hx hb dX11_putFour_7 rfl (lv_at hl 1 rfl) ?_
  refine va_get (D := (dC, dI)) (ci := 11) (v := .ref h1) (C := RX11) (T := TX11) (N := 16) hx hb hts hiX11 hown hK hP 0 rfl rfl 0 (by decide) (hts (.fieldLink RX11 9 "CakePapers" "tape" "[I") (by decide +kernel)) (fun _ h9 => h9) (by simp [e_fs_0]) dX11_putFour_8 ?_
  refine lv_aload_n hx hb dX11_putFour_11 rfl (lv_at hl 1 rfl) ?_
  refine va_get (D := (dC, dI)) (ci := 11) (v := .int 9) (C := RX11) (T := TX11) (N := 16) hx hb hts hiX11 hown hK hP 0 rfl rfl 1 (by decide) (hts (.fieldLink RX11 107 "CakePapers" "taped" "I") (by decide +kernel)) (fun _ h9 => h9) (by simp [hn_fs]) dX11_putFour_12 ?_
  refine lv_iload_n hx hb dX11_putFour_15 rfl (lv_at hl 2 rfl) ?_
  refine lv_iload_n hx hb dX11_putFour_16 rfl (lv_at hl 0 rfl) ?_
  refine lv_iushr (v := (Int32.toUInt32 p0 >>> (Int32.toUInt32 16 &&& Int32.toUInt32 31)).toInt32) hx hb dX11_putFour_17 rfl ?_
  refine lv_topi (fun v_5 _ => ?_)
  refine lv_sipush (v := 255) hx hb dX11_putFour_18 (by decide) ?_
  refine lv_iand hx hb dX11_putFour_21 ?_
  refine va_iast hx hb hK hP hD hS 1 0 rfl rfl (zz_in (by decide)) dX11_putFour_22 (fun H locs hP hD hS => ?_)
  obtain ⟨f_6, hP, hD⟩ : ∃ f_6 : Nat → Int32, va_P (dC, dI) vwCl [(h0, .inr (11, (List.set fs 1 (.int 9)))), (h1, .inl (cI, 1200, .inl f_6))] H ∧ va_D A [(h0, .inr (11, (List.set fs 1 (.int 9)))), (h1, .inl (cI, 1200, .inl f_6))] := ⟨_, hP, hD⟩
  refine lv_aload_n hx hb dX11_putFour_23 rfl (lv_at hl 1 rfl) ?_
  refine lv_dup hx hb dX11_putFour_24 rfl ?_
  refine va_get (D := (dC, dI)) (ci := 11) (v := .int 9) (C := RX11) (T := TX11) (N := 16) hx hb hts hiX11 hown hK hP 0 rfl rfl 1 (by decide) (hts (.fieldLink RX11 107 "CakePapers" "taped" "I") (by decide +kernel)) (fun _ h9 => h9) (by simp [hn_fs]) dX11_putFour_25 ?_
  refine lv_iconst (v := 1) hx hb dX11_putFour_28 (by decide) ?_
  refine lv_iadd hx hb dX11_putFour_29 ?_
  refine zz_ci (y := 10) (by decide) ?_
  refine va_put (D := (dC, dI)) (ci := 11) (v := .int 10) (ty := .int) (C := RX11) (T := TX11) (N := 16) hx hb hts hiX11 tyX11 tyX11_ok nmX11 hown hK hP hD hS 0 rfl rfl 1 (by decide) (hts (.fieldLink RX11 107 "CakePapers" "taped" "I") (by decide +kernel)) (fun _ h9 => h9) rfl (by decide +kernel) rfl rfl (by simp [hn_fs]) dX11_putFour_30 (fun H locs hP hD hS => ?_)
  have hP : va_P (dC, dI) vwCl [(h0, .inr (11, (List.set (List.set fs 1 (.int 9)) 1 (.int 10)))), (h1, .inl (cI, 1200, .inl f_6))] H := hP
  have hD : va_D A [(h0, .inr (11, (List.set (List.set fs 1 (.int 9)) 1 (.int 10)))), (h1, .inl (cI, 1200, .inl f_6))] := hD
  refine lv_iinc (v := 8) (lv' := [(2, .int 8), (0, .ref h0), (1, .int p0)]) hx hb dX11_putFour_33 hl (k := 0) rfl (by decide) (by decide) rfl (fun ls hl => ?_)
  refine lv_goto (tgt := 3) hx hb dX11_putFour_36 (by decide) ?_
  refine lv_iload_n hx hb dX11_putFour_3 rfl (lv_at hl 0 rfl) ?_
  refine lv_if_lt (tgt := 39) hx hb dX11_putFour_4 (by decide) (fun c_7 => absurd c_7 (by decide)) (fun c_7 => ?_)
  refine lv_aload_n hx hb dX11_putFour_7 rfl (lv_at hl 1 rfl) ?_
  refine va_get (D := (dC, dI)) (ci := 11) (v := .ref h1) (C := RX11) (T := TX11) (N := 16) hx hb hts hiX11 hown hK hP 0 rfl rfl 0 (by decide) (hts (.fieldLink RX11 9 "CakePapers" "tape" "[I") (by decide +kernel)) (fun _ h9 => h9) (by simp [e_fs_0]) dX11_putFour_8 ?_
  refine lv_aload_n hx hb dX11_putFour_11 rfl (lv_at hl 1 rfl) ?_
  refine va_get (D := (dC, dI)) (ci := 11) (v := .int 10) (C := RX11) (T := TX11) (N := 16) hx hb hts hiX11 hown hK hP 0 rfl rfl 1 (by decide) (hts (.fieldLink RX11 107 "CakePapers" "taped" "I") (by decide +kernel)) (fun _ h9 => h9) (by simp [hn_fs]) dX11_putFour_12 ?_
  refine lv_iload_n hx hb dX11_putFour_15 rfl (lv_at hl 2 rfl) ?_
  refine lv_iload_n hx hb dX11_putFour_16 rfl (lv_at hl 0 rfl) ?_
  refine lv_iushr (v := (Int32.toUInt32 p0 >>> (Int32.toUInt32 8 &&& Int32.toUInt32 31)).toInt32) hx hb dX11_putFour_17 rfl ?_
  refine lv_topi (fun v_8 _ => ?_)
  refine lv_sipush (v := 255) hx hb dX11_putFour_18 (by decide) ?_
  refine lv_iand hx hb dX11_putFour_21 ?_
  refine va_iast hx hb hK hP hD hS 1 0 rfl rfl (zz_in (by decide)) dX11_putFour_22 (fun H locs hP hD hS => ?_)
  obtain ⟨f_9, hP, hD⟩ : ∃ f_9 : Nat → Int32, va_P (dC, dI) vwCl [(h0, .inr (11, (List.set (List.set fs 1 (.int 9)) 1 (.int 10)))), (h1, .inl (cI, 1200, .inl f_9))] H ∧ va_D A [(h0, .inr (11, (List.set (List.set fs 1 (.int 9)) 1 (.int 10)))), (h1, .inl (cI, 1200, .inl f_9))] := ⟨_, hP, hD⟩
  refine lv_aload_n hx hb dX11_putFour_23 rfl (lv_at hl 1 rfl) ?_
  refine lv_dup hx hb dX11_putFour_24 rfl ?_
  refine va_get (D := (dC, dI)) (ci := 11) (v := .int 10) (C := RX11) (T := TX11) (N := 16) hx hb hts hiX11 hown hK hP 0 rfl rfl 1 (by decide) (hts (.fieldLink RX11 107 "CakePapers" "taped" "I") (by decide +kernel)) (fun _ h9 => h9) (by simp [hn_fs]) dX11_putFour_25 ?_
  refine lv_iconst (v := 1) hx hb dX11_putFour_28 (by decide) ?_
  refine lv_iadd hx hb dX11_putFour_29 ?_
  refine zz_ci (y := 11) (by decide) ?_
  refine va_put (D := (dC, dI)) (ci := 11) (v := .int 11) (ty := .int) (C := RX11) (T := TX11) (N := 16) hx hb hts hiX11 tyX11 tyX11_ok nmX11 hown hK hP hD hS 0 rfl rfl 1 (by decide) (hts (.fieldLink RX11 107 "CakePapers" "taped" "I") (by decide +kernel)) (fun _ h9 => h9) rfl (by decide +kernel) rfl rfl (by simp [hn_fs]) dX11_putFour_30 (fun H locs hP hD hS => ?_)
  have hP : va_P (dC, dI) vwCl [(h0, .inr (11, (List.set (List.set (List.set fs 1 (.int 9)) 1 (.int 10)) 1 (.int 11)))), (h1, .inl (cI, 1200, .inl f_9))] H := hP
  have hD : va_D A [(h0, .inr (11, (List.set (List.set (List.set fs 1 (.int 9)) 1 (.int 10)) 1 (.int 11)))), (h1, .inl (cI, 1200, .inl f_9))] := hD
  refine lv_iinc (v := 0) (lv' := [(2, .int 0), (0, .ref h0), (1, .int p0)]) hx hb dX11_putFour_33 hl (k := 0) rfl (by decide) (by decide) rfl (fun ls hl => ?_)
  refine lv_goto (tgt := 3) hx hb dX11_putFour_36 (by decide) ?_
  refine lv_iload_n hx hb dX11_putFour_3 rfl (lv_at hl 0 rfl) ?_
  refine lv_if_lt (tgt := 39) hx hb dX11_putFour_4 (by decide) (fun c_10 => absurd c_10 (by decide)) (fun c_10 => ?_)
  refine lv_aload_n hx hb dX11_putFour_7 rfl (lv_at hl 1 rfl) ?_
  refine va_get (D := (dC, dI)) (ci := 11) (v := .ref h1) (C := RX11) (T := TX11) (N := 16) hx hb hts hiX11 hown hK hP 0 rfl rfl 0 (by decide) (hts (.fieldLink RX11 9 "CakePapers" "tape" "[I") (by decide +kernel)) (fun _ h9 => h9) (by simp [e_fs_0]) dX11_putFour_8 ?_
  refine lv_aload_n hx hb dX11_putFour_11 rfl (lv_at hl 1 rfl) ?_
  refine va_get (D := (dC, dI)) (ci := 11) (v := .int 11) (C := RX11) (T := TX11) (N := 16) hx hb hts hiX11 hown hK hP 0 rfl rfl 1 (by decide) (hts (.fieldLink RX11 107 "CakePapers" "taped" "I") (by decide +kernel)) (fun _ h9 => h9) (by simp [hn_fs]) dX11_putFour_12 ?_
  refine lv_iload_n hx hb dX11_putFour_15 rfl (lv_at hl 2 rfl) ?_
  refine lv_iload_n hx hb dX11_putFour_16 rfl (lv_at hl 0 rfl) ?_
  refine lv_iushr (v := (Int32.toUInt32 p0 >>> (Int32.toUInt32 0 &&& Int32.toUInt32 31)).toInt32) hx hb dX11_putFour_17 rfl ?_
  refine lv_topi (fun v_11 _ => ?_)
  refine lv_sipush (v := 255) hx hb dX11_putFour_18 (by decide) ?_
  refine lv_iand hx hb dX11_putFour_21 ?_
  refine va_iast hx hb hK hP hD hS 1 0 rfl rfl (zz_in (by decide)) dX11_putFour_22 (fun H locs hP hD hS => ?_)
  obtain ⟨f_12, hP, hD⟩ : ∃ f_12 : Nat → Int32, va_P (dC, dI) vwCl [(h0, .inr (11, (List.set (List.set (List.set fs 1 (.int 9)) 1 (.int 10)) 1 (.int 11)))), (h1, .inl (cI, 1200, .inl f_12))] H ∧ va_D A [(h0, .inr (11, (List.set (List.set (List.set fs 1 (.int 9)) 1 (.int 10)) 1 (.int 11)))), (h1, .inl (cI, 1200, .inl f_12))] := ⟨_, hP, hD⟩
  refine lv_aload_n hx hb dX11_putFour_23 rfl (lv_at hl 1 rfl) ?_
  refine lv_dup hx hb dX11_putFour_24 rfl ?_
  refine va_get (D := (dC, dI)) (ci := 11) (v := .int 11) (C := RX11) (T := TX11) (N := 16) hx hb hts hiX11 hown hK hP 0 rfl rfl 1 (by decide) (hts (.fieldLink RX11 107 "CakePapers" "taped" "I") (by decide +kernel)) (fun _ h9 => h9) (by simp [hn_fs]) dX11_putFour_25 ?_
  refine lv_iconst (v := 1) hx hb dX11_putFour_28 (by decide) ?_
  refine lv_iadd hx hb dX11_putFour_29 ?_
  refine zz_ci (y := 12) (by decide) ?_
  refine va_put (D := (dC, dI)) (ci := 11) (v := .int 12) (ty := .int) (C := RX11) (T := TX11) (N := 16) hx hb hts hiX11 tyX11 tyX11_ok nmX11 hown hK hP hD hS 0 rfl rfl 1 (by decide) (hts (.fieldLink RX11 107 "CakePapers" "taped" "I") (by decide +kernel)) (fun _ h9 => h9) rfl (by decide +kernel) rfl rfl (by simp [hn_fs]) dX11_putFour_30 (fun H locs hP hD hS => ?_)
  have hP : va_P (dC, dI) vwCl [(h0, .inr (11, (List.set (List.set (List.set (List.set fs 1 (.int 9)) 1 (.int 10)) 1 (.int 11)) 1 (.int 12)))), (h1, .inl (cI, 1200, .inl f_12))] H := hP
  have hD : va_D A [(h0, .inr (11, (List.set (List.set (List.set (List.set fs 1 (.int 9)) 1 (.int 10)) 1 (.int 11)) 1 (.int 12)))), (h1, .inl (cI, 1200, .inl f_12))] := hD
  refine lv_iinc (v := (-8)) (lv' := [(2, .int (-8)), (0, .ref h0), (1, .int p0)]) hx hb dX11_putFour_33 hl (k := 0) rfl (by decide) (by decide) rfl (fun ls hl => ?_)
  refine lv_goto (tgt := 3) hx hb dX11_putFour_36 (by decide) ?_
  refine lv_iload_n hx hb dX11_putFour_3 rfl (lv_at hl 0 rfl) ?_
  refine lv_if_lt (tgt := 39) hx hb dX11_putFour_4 (by decide) (fun c_13 => ?_) (fun c_13 => absurd c_13 (by decide))
  refine W.widen (k := 0) (n := 0) (Nat.le_of_ble_eq_true rfl) (Nat.le_of_ble_eq_true rfl) ?_
  have hP9 := hP.sub (ws' := [(h0, .inr (11, (List.set (List.set (List.set (List.set fs 1 (.int 9)) 1 (.int 10)) 1 (.int 11)) 1 (.int 12)))), (h1, .inl (cI, 1200, .inl f_12))]) [0, 1] rfl
  have hD9 := hD.sub (ws' := [(h0, .inr (11, (List.set (List.set (List.set (List.set fs 1 (.int 9)) 1 (.int 10)) 1 (.int 11)) 1 (.int 12)))), (h1, .inl (cI, 1200, .inl f_12))]) [0, 1] (by decide) rfl
  exact W.vret hx hb hr (fun t ht hW => ⟨⟨(), rfl, trivial, f_12, by rw [ht]; exact hP9, hD9⟩, hS.F ht⟩) hS.2.2 dX11_putFour_39
def u_c_X11_putFour_12 : List Cond := .code yX11_putFour cX11_putFour 3 none :: ([.fieldLink RX11 9 "CakePapers" "tape" "[I", .fieldLink RX11 107 "CakePapers" "taped" "I"] ++ wsX110)
theorem iX11_c_X11_putFour_12 : ∀ w ∈ wsX110, w ∈ u_c_X11_putFour_12 := fun w h => List.mem_cons_of_mem _ (List.mem_append_right _ h)
set_option maxHeartbeats 1000000 in
set_option maxRecDepth 100000 in
theorem c_X11_putFour_12 (l : Launch) (dC : Nat → ClassId) (dI : Nat → Nat → Nat) (sz : Nat) (h0 h1 : Nat) (cI : ClassId) (f : Nat → Int32) (fs : List Value) (hn_fs : fs.length = 16) (e_fs_0 : fs[0]? = some (.ref h1)) (e_fs_1 : fs[1]? = some (.int 12)) (p0 : Int32) : Met l yX11_putFour u_c_X11_putFour_12 ({ frames := 0, cells := 0, slots := 0, locals := 0 }) (va_Pc [.ref h0, .int p0] (fun U => U.heap.size = sz ∧ va_P (dC, dI) vwCl [(h0, .inr (11, fs)), (h1, .inl (cI, 1200, .inl f))] U.heap ∧ va_K (dC, dI) vwCl [(cI, .int)] U ∧ va_D (fun _ => True) [(h0, .inr (11, fs)), (h1, .inl (cI, 1200, .inl f))])) (va_Qv (fun (_ : Unit) => True) (fun _ t => ∃ (f_12 : Nat → Int32), va_P (dC, dI) vwCl [(h0, .inr (11, (List.set (List.set (List.set (List.set fs 1 (.int 13)) 1 (.int 14)) 1 (.int 15)) 1 (.int 16)))), (h1, .inl (cI, 1200, .inl f_12))] t.heap ∧ va_D (va_A [(h0, .inr (11, fs)), (h1, .inl (cI, 1200, .inl f))] sz) [(h0, .inr (11, (List.set (List.set (List.set (List.set fs 1 (.int 13)) 1 (.int 14)) 1 (.int 15)) 1 (.int 16)))), (h1, .inl (cI, 1200, .inl f_12))]) (va_A [(h0, .inr (11, fs)), (h1, .inl (cI, 1200, .inl f))] sz)) 0 0 (va_A [(h0, .inr (11, fs)), (h1, .inl (cI, 1200, .inl f))] sz) := by
  refine Met.ofW (cc := cX11_putFour) (maxL := 3) (ret := none) (by decide) rfl ?_
  intro p e s m args below meth c s₁ B hml hv
  obtain ⟨rfl, hsz, hP, hK, hD0⟩ := hv
  have hx := B.exec
  have hb := B.bytes
  have hr := B.returns
  have hts := atoms_spec (ws := u_c_X11_putFour_12) B.pre
  have hown : s.vm.findClass RX11 = some m.cls := findClass_of_methodNamed B.named
  have hlocks := B.notSynchronized
  have hiX11 := iX11_c_X11_putFour_12
  subst hsz
  have hD := hD0.self (sz := s.heap.size)
  generalize hAe : va_A [(h0, .inr (11, fs)), (h1, .inl (cI, 1200, .inl f))] s.heap.size = A at hD ⊢
  have hA : ∀ q : Nat, s.heap.size ≤ q → A q := fun q h => by rw [← hAe]; exact Or.inr h
  have hS : va_S A s.heap s.heap [] := va_S.rf
  obtain ⟨H, hH⟩ : ∃ H : Heap, H = s.heap := ⟨_, rfl⟩
  have hP : va_P (dC, dI) vwCl [(h0, .inr (11, fs)), (h1, .inl (cI, 1200, .inl f))] H := by rw [hH]; exact hP
  have hS : va_S A s.heap H [] := by rw [hH]; exact hS
  have hl := lv_entry ([.ref h0, .int p0]) (n := 3) (Nat.le_of_ble_eq_true rfl)
  rw [lg_entry_eq]
  generalize (lg_sl ([.ref h0, .int p0]) ++ List.replicate (3 - (lg_sl ([.ref h0, .int p0])).length) Slot.unset).toArray = ls at hl ⊢
  have hl : lv_has ls 3 [(0, .ref h0), (1, .int p0)] := hl
  suffices h9 : W p l e (headSpec u_c_X11_putFour_12 _).room s m _ below meth c H [] 0 0 _ (F0 m 0 ls []) by rw [hH] at h9; exact h9
  refine lv_bipush (v := 24) hx hb dX11_putFour_0 (by decide) ?_
  refine lv_istore_n (lv' := [(2, .int 24), (0, .ref h0), (1, .int p0)]) hx hb dX11_putFour_2 rfl hl (by decide) rfl (fun ls hl => ?_)
  refine lv_iload_n hx hb dX11_putFour_3 rfl (lv_at hl 0 rfl) ?_
  refine lv_if_lt (tgt := 39) hx hb dX11_putFour_4 (by decide) (fun c_1 => absurd c_1 (by decide)) (fun c_1 => ?_)
  refine lv_aload_n hx hb dX11_putFour_7 rfl (lv_at hl 1 rfl) ?_
  refine va_get (D := (dC, dI)) (ci := 11) (v := .ref h1) (C := RX11) (T := TX11) (N := 16) hx hb hts hiX11 hown hK hP 0 rfl rfl 0 (by decide) (hts (.fieldLink RX11 9 "CakePapers" "tape" "[I") (by decide +kernel)) (fun _ h9 => h9) e_fs_0 dX11_putFour_8 ?_
  refine lv_aload_n hx hb dX11_putFour_11 rfl (lv_at hl 1 rfl) ?_
  refine va_get (D := (dC, dI)) (ci := 11) (v := .int 12) (C := RX11) (T := TX11) (N := 16) hx hb hts hiX11 hown hK hP 0 rfl rfl 1 (by decide) (hts (.fieldLink RX11 107 "CakePapers" "taped" "I") (by decide +kernel)) (fun _ h9 => h9) e_fs_1 dX11_putFour_12 ?_
  refine lv_iload_n hx hb dX11_putFour_15 rfl (lv_at hl 2 rfl) ?_
  refine lv_iload_n hx hb dX11_putFour_16 rfl (lv_at hl 0 rfl) ?_
  refine lv_iushr (v := (Int32.toUInt32 p0 >>> (Int32.toUInt32 24 &&& Int32.toUInt32 31)).toInt32) hx hb dX11_putFour_17 rfl ?_
  refine lv_topi (fun v_2 _ => ?_)
  refine lv_sipush (v := 255) hx hb dX11_putFour_18 (by decide) ?_
  refine lv_iand hx hb dX11_putFour_21 ?_
  refine va_iast hx hb hK hP hD hS 1 0 rfl rfl (zz_in (by decide)) dX11_putFour_22 (fun H locs hP hD hS => ?_)
  obtain ⟨f_3, hP, hD⟩ : ∃ f_3 : Nat → Int32, va_P (dC, dI) vwCl [(h0, .inr (11, fs)), (h1, .inl (cI, 1200, .inl f_3))] H ∧ va_D A [(h0, .inr (11, fs)), (h1, .inl (cI, 1200, .inl f_3))] := ⟨_, hP, hD⟩
  refine lv_aload_n hx hb dX11_putFour_23 rfl (lv_at hl 1 rfl) ?_
  refine lv_dup hx hb dX11_putFour_24 rfl ?_
  refine va_get (D := (dC, dI)) (ci := 11) (v := .int 12) (C := RX11) (T := TX11) (N := 16) hx hb hts hiX11 hown hK hP 0 rfl rfl 1 (by decide) (hts (.fieldLink RX11 107 "CakePapers" "taped" "I") (by decide +kernel)) (fun _ h9 => h9) e_fs_1 dX11_putFour_25 ?_
  refine lv_iconst (v := 1) hx hb dX11_putFour_28 (by decide) ?_
  refine lv_iadd hx hb dX11_putFour_29 ?_
  refine zz_ci (y := 13) (by decide) ?_
  refine va_put (D := (dC, dI)) (ci := 11) (v := .int 13) (ty := .int) (C := RX11) (T := TX11) (N := 16) hx hb hts hiX11 tyX11 tyX11_ok nmX11 hown hK hP hD hS 0 rfl rfl 1 (by decide) (hts (.fieldLink RX11 107 "CakePapers" "taped" "I") (by decide +kernel)) (fun _ h9 => h9) rfl (by decide +kernel) rfl rfl (by simp [hn_fs]) dX11_putFour_30 (fun H locs hP hD hS => ?_)
  have hP : va_P (dC, dI) vwCl [(h0, .inr (11, (List.set fs 1 (.int 13)))), (h1, .inl (cI, 1200, .inl f_3))] H := hP
  have hD : va_D A [(h0, .inr (11, (List.set fs 1 (.int 13)))), (h1, .inl (cI, 1200, .inl f_3))] := hD
  refine lv_iinc (v := 16) (lv' := [(2, .int 16), (0, .ref h0), (1, .int p0)]) hx hb dX11_putFour_33 hl (k := 0) rfl (by decide) (by decide) rfl (fun ls hl => ?_)
  refine lv_goto (tgt := 3) hx hb dX11_putFour_36 (by decide) ?_
  refine lv_iload_n hx hb dX11_putFour_3 rfl (lv_at hl 0 rfl) ?_
  refine lv_if_lt (tgt := 39) hx hb dX11_putFour_4 (by decide) (fun c_4 => absurd c_4 (by decide)) (fun c_4 => ?_)
  refine lv_aload_n hx hb dX11_putFour_7 rfl (lv_at hl 1 rfl) ?_
  refine va_get (D := (dC, dI)) (ci := 11) (v := .ref h1) (C := RX11) (T := TX11) (N := 16) hx hb hts hiX11 hown hK hP 0 rfl rfl 0 (by decide) (hts (.fieldLink RX11 9 "CakePapers" "tape" "[I") (by decide +kernel)) (fun _ h9 => h9) (by simp [e_fs_0]) dX11_putFour_8 ?_
  refine lv_aload_n hx hb dX11_putFour_11 rfl (lv_at hl 1 rfl) ?_
  refine va_get (D := (dC, dI)) (ci := 11) (v := .int 13) (C := RX11) (T := TX11) (N := 16) hx hb hts hiX11 hown hK hP 0 rfl rfl 1 (by decide) (hts (.fieldLink RX11 107 "CakePapers" "taped" "I") (by decide +kernel)) (fun _ h9 => h9) (by simp [hn_fs]) dX11_putFour_12 ?_
  refine lv_iload_n hx hb dX11_putFour_15 rfl (lv_at hl 2 rfl) ?_
  refine lv_iload_n hx hb dX11_putFour_16 rfl (lv_at hl 0 rfl) ?_
  refine lv_iushr (v := (Int32.toUInt32 p0 >>> (Int32.toUInt32 16 &&& Int32.toUInt32 31)).toInt32) hx hb dX11_putFour_17 rfl ?_
  refine lv_topi (fun v_5 _ => ?_)
  refine lv_sipush (v := 255) hx hb dX11_putFour_18 (by decide) ?_
  refine lv_iand hx hb dX11_putFour_21 ?_
  refine va_iast hx hb hK hP hD hS 1 0 rfl rfl (zz_in (by decide)) dX11_putFour_22 (fun H locs hP hD hS => ?_)
  obtain ⟨f_6, hP, hD⟩ : ∃ f_6 : Nat → Int32, va_P (dC, dI) vwCl [(h0, .inr (11, (List.set fs 1 (.int 13)))), (h1, .inl (cI, 1200, .inl f_6))] H ∧ va_D A [(h0, .inr (11, (List.set fs 1 (.int 13)))), (h1, .inl (cI, 1200, .inl f_6))] := ⟨_, hP, hD⟩
  refine lv_aload_n hx hb dX11_putFour_23 rfl (lv_at hl 1 rfl) ?_
  refine lv_dup hx hb dX11_putFour_24 rfl ?_
  refine va_get (D := (dC, dI)) (ci := 11) (v := .int 13) (C := RX11) (T := TX11) (N := 16) hx hb hts hiX11 hown hK hP 0 rfl rfl 1 (by decide) (hts (.fieldLink RX11 107 "CakePapers" "taped" "I") (by decide +kernel)) (fun _ h9 => h9) (by simp [hn_fs]) dX11_putFour_25 ?_
  refine lv_iconst (v := 1) hx hb dX11_putFour_28 (by decide) ?_
  refine lv_iadd hx hb dX11_putFour_29 ?_
  refine zz_ci (y := 14) (by decide) ?_
  refine va_put (D := (dC, dI)) (ci := 11) (v := .int 14) (ty := .int) (C := RX11) (T := TX11) (N := 16) hx hb hts hiX11 tyX11 tyX11_ok nmX11 hown hK hP hD hS 0 rfl rfl 1 (by decide) (hts (.fieldLink RX11 107 "CakePapers" "taped" "I") (by decide +kernel)) (fun _ h9 => h9) rfl (by decide +kernel) rfl rfl (by simp [hn_fs]) dX11_putFour_30 (fun H locs hP hD hS => ?_)
  have hP : va_P (dC, dI) vwCl [(h0, .inr (11, (List.set (List.set fs 1 (.int 13)) 1 (.int 14)))), (h1, .inl (cI, 1200, .inl f_6))] H := hP
  have hD : va_D A [(h0, .inr (11, (List.set (List.set fs 1 (.int 13)) 1 (.int 14)))), (h1, .inl (cI, 1200, .inl f_6))] := hD
  refine lv_iinc (v := 8) (lv' := [(2, .int 8), (0, .ref h0), (1, .int p0)]) hx hb dX11_putFour_33 hl (k := 0) rfl (by decide) (by decide) rfl (fun ls hl => ?_)
  refine lv_goto (tgt := 3) hx hb dX11_putFour_36 (by decide) ?_
  refine lv_iload_n hx hb dX11_putFour_3 rfl (lv_at hl 0 rfl) ?_
  refine lv_if_lt (tgt := 39) hx hb dX11_putFour_4 (by decide) (fun c_7 => absurd c_7 (by decide)) (fun c_7 => ?_)
  refine lv_aload_n hx hb dX11_putFour_7 rfl (lv_at hl 1 rfl) ?_
  refine va_get (D := (dC, dI)) (ci := 11) (v := .ref h1) (C := RX11) (T := TX11) (N := 16) hx hb hts hiX11 hown hK hP 0 rfl rfl 0 (by decide) (hts (.fieldLink RX11 9 "CakePapers" "tape" "[I") (by decide +kernel)) (fun _ h9 => h9) (by simp [e_fs_0]) dX11_putFour_8 ?_
  refine lv_aload_n hx hb dX11_putFour_11 rfl (lv_at hl 1 rfl) ?_
  refine va_get (D := (dC, dI)) (ci := 11) (v := .int 14) (C := RX11) (T := TX11) (N := 16) hx hb hts hiX11 hown hK hP 0 rfl rfl 1 (by decide) (hts (.fieldLink RX11 107 "CakePapers" "taped" "I") (by decide +kernel)) (fun _ h9 => h9) (by simp [hn_fs]) dX11_putFour_12 ?_
  refine lv_iload_n hx hb dX11_putFour_15 rfl (lv_at hl 2 rfl) ?_
  refine lv_iload_n hx hb dX11_putFour_16 rfl (lv_at hl 0 rfl) ?_
  refine lv_iushr (v := (Int32.toUInt32 p0 >>> (Int32.toUInt32 8 &&& Int32.toUInt32 31)).toInt32) hx hb dX11_putFour_17 rfl ?_
  refine lv_topi (fun v_8 _ => ?_)
  refine lv_sipush (v := 255) hx hb dX11_putFour_18 (by decide) ?_
  refine lv_iand hx hb dX11_putFour_21 ?_
  refine va_iast hx hb hK hP hD hS 1 0 rfl rfl (zz_in (by decide)) dX11_putFour_22 (fun H locs hP hD hS => ?_)
  obtain ⟨f_9, hP, hD⟩ : ∃ f_9 : Nat → Int32, va_P (dC, dI) vwCl [(h0, .inr (11, (List.set (List.set fs 1 (.int 13)) 1 (.int 14)))), (h1, .inl (cI, 1200, .inl f_9))] H ∧ va_D A [(h0, .inr (11, (List.set (List.set fs 1 (.int 13)) 1 (.int 14)))), (h1, .inl (cI, 1200, .inl f_9))] := ⟨_, hP, hD⟩
  refine lv_aload_n hx hb dX11_putFour_23 rfl (lv_at hl 1 rfl) ?_
  refine lv_dup hx hb dX11_putFour_24 rfl ?_
  refine va_get (D := (dC, dI)) (ci := 11) (v := .int 14) (C := RX11) (T := TX11) (N := 16) hx hb hts hiX11 hown hK hP 0 rfl rfl 1 (by decide) (hts (.fieldLink RX11 107 "CakePapers" "taped" "I") (by decide +kernel)) (fun _ h9 => h9) (by simp [hn_fs]) dX11_putFour_25 ?_
  refine lv_iconst (v := 1) hx hb dX11_putFour_28 (by decide) ?_
  refine lv_iadd hx hb dX11_putFour_29 ?_
  refine zz_ci (y := 15) (by decide) ?_
  refine va_put (D := (dC, dI)) (ci := 11) (v := .int 15) (ty := .int) (C := RX11) (T := TX11) (N := 16) hx hb hts hiX11 tyX11 tyX11_ok nmX11 hown hK hP hD hS 0 rfl rfl 1 (by decide) (hts (.fieldLink RX11 107 "CakePapers" "taped" "I") (by decide +kernel)) (fun _ h9 => h9) rfl (by decide +kernel) rfl rfl (by simp [hn_fs]) dX11_putFour_30 (fun H locs hP hD hS => ?_)
  have hP : va_P (dC, dI) vwCl [(h0, .inr (11, (List.set (List.set (List.set fs 1 (.int 13)) 1 (.int 14)) 1 (.int 15)))), (h1, .inl (cI, 1200, .inl f_9))] H := hP
  have hD : va_D A [(h0, .inr (11, (List.set (List.set (List.set fs 1 (.int 13)) 1 (.int 14)) 1 (.int 15)))), (h1, .inl (cI, 1200, .inl f_9))] := hD
  refine lv_iinc (v := 0) (lv' := [(2, .int 0), (0, .ref h0), (1, .int p0)]) hx hb dX11_putFour_33 hl (k := 0) rfl (by decide) (by decide) rfl (fun ls hl => ?_)
  refine lv_goto (tgt := 3) hx hb dX11_putFour_36 (by decide) ?_
  refine lv_iload_n hx hb dX11_putFour_3 rfl (lv_at hl 0 rfl) ?_
  refine lv_if_lt (tgt := 39) hx hb dX11_putFour_4 (by decide) (fun c_10 => absurd c_10 (by decide)) (fun c_10 => ?_)
  refine lv_aload_n hx hb dX11_putFour_7 rfl (lv_at hl 1 rfl) ?_
  refine va_get (D := (dC, dI)) (ci := 11) (v := .ref h1) (C := RX11) (T := TX11) (N := 16) hx hb hts hiX11 hown hK hP 0 rfl rfl 0 (by decide) (hts (.fieldLink RX11 9 "CakePapers" "tape" "[I") (by decide +kernel)) (fun _ h9 => h9) (by simp [e_fs_0]) dX11_putFour_8 ?_
  refine lv_aload_n hx hb dX11_putFour_11 rfl (lv_at hl 1 rfl) ?_
  refine va_get (D := (dC, dI)) (ci := 11) (v := .int 15) (C := RX11) (T := TX11) (N := 16) hx hb hts hiX11 hown hK hP 0 rfl rfl 1 (by decide) (hts (.fieldLink RX11 107 "CakePapers" "taped" "I") (by decide +kernel)) (fun _ h9 => h9) (by simp [hn_fs]) dX11_putFour_12 ?_
  refine lv_iload_n hx hb dX11_putFour_15 rfl (lv_at hl 2 rfl) ?_
  refine lv_iload_n hx hb dX11_putFour_16 rfl (lv_at hl 0 rfl) ?_
  refine lv_iushr (v := (Int32.toUInt32 p0 >>> (Int32.toUInt32 0 &&& Int32.toUInt32 31)).toInt32) hx hb dX11_putFour_17 rfl ?_
  refine lv_topi (fun v_11 _ => ?_)
  refine lv_sipush (v := 255) hx hb dX11_putFour_18 (by decide) ?_
  refine lv_iand hx hb dX11_putFour_21 ?_
  refine va_iast hx hb hK hP hD hS 1 0 rfl rfl (zz_in (by decide)) dX11_putFour_22 (fun H locs hP hD hS => ?_)
  obtain ⟨f_12, hP, hD⟩ : ∃ f_12 : Nat → Int32, va_P (dC, dI) vwCl [(h0, .inr (11, (List.set (List.set (List.set fs 1 (.int 13)) 1 (.int 14)) 1 (.int 15)))), (h1, .inl (cI, 1200, .inl f_12))] H ∧ va_D A [(h0, .inr (11, (List.set (List.set (List.set fs 1 (.int 13)) 1 (.int 14)) 1 (.int 15)))), (h1, .inl (cI, 1200, .inl f_12))] := ⟨_, hP, hD⟩
  refine lv_aload_n hx hb dX11_putFour_23 rfl (lv_at hl 1 rfl) ?_
  refine lv_dup hx hb dX11_putFour_24 rfl ?_
  refine va_get (D := (dC, dI)) (ci := 11) (v := .int 15) (C := RX11) (T := TX11) (N := 16) hx hb hts hiX11 hown hK hP 0 rfl rfl 1 (by decide) (hts (.fieldLink RX11 107 "CakePapers" "taped" "I") (by decide +kernel)) (fun _ h9 => h9) (by simp [hn_fs]) dX11_putFour_25 ?_
  refine lv_iconst (v := 1) hx hb dX11_putFour_28 (by decide) ?_
  refine lv_iadd hx hb dX11_putFour_29 ?_
  refine zz_ci (y := 16) (by decide) ?_
  refine va_put (D := (dC, dI)) (ci := 11) (v := .int 16) (ty := .int) (C := RX11) (T := TX11) (N := 16) hx hb hts hiX11 tyX11 tyX11_ok nmX11 hown hK hP hD hS 0 rfl rfl 1 (by decide) (hts (.fieldLink RX11 107 "CakePapers" "taped" "I") (by decide +kernel)) (fun _ h9 => h9) rfl (by decide +kernel) rfl rfl (by simp [hn_fs]) dX11_putFour_30 (fun H locs hP hD hS => ?_)
  have hP : va_P (dC, dI) vwCl [(h0, .inr (11, (List.set (List.set (List.set (List.set fs 1 (.int 13)) 1 (.int 14)) 1 (.int 15)) 1 (.int 16)))), (h1, .inl (cI, 1200, .inl f_12))] H := hP
  have hD : va_D A [(h0, .inr (11, (List.set (List.set (List.set (List.set fs 1 (.int 13)) 1 (.int 14)) 1 (.int 15)) 1 (.int 16)))), (h1, .inl (cI, 1200, .inl f_12))] := hD
  refine lv_iinc (v := (-8)) (lv' := [(2, .int (-8)), (0, .ref h0), (1, .int p0)]) hx hb dX11_putFour_33 hl (k := 0) rfl (by decide) (by decide) rfl (fun ls hl => ?_)
  refine lv_goto (tgt := 3) hx hb dX11_putFour_36 (by decide) ?_
  refine lv_iload_n hx hb dX11_putFour_3 rfl (lv_at hl 0 rfl) ?_
  refine lv_if_lt (tgt := 39) hx hb dX11_putFour_4 (by decide) (fun c_13 => ?_) (fun c_13 => absurd c_13 (by decide))
  refine W.widen (k := 0) (n := 0) (Nat.le_of_ble_eq_true rfl) (Nat.le_of_ble_eq_true rfl) ?_
  have hP9 := hP.sub (ws' := [(h0, .inr (11, (List.set (List.set (List.set (List.set fs 1 (.int 13)) 1 (.int 14)) 1 (.int 15)) 1 (.int 16)))), (h1, .inl (cI, 1200, .inl f_12))]) [0, 1] rfl
  have hD9 := hD.sub (ws' := [(h0, .inr (11, (List.set (List.set (List.set (List.set fs 1 (.int 13)) 1 (.int 14)) 1 (.int 15)) 1 (.int 16)))), (h1, .inl (cI, 1200, .inl f_12))]) [0, 1] (by decide) rfl
  exact W.vret hx hb hr (fun t ht hW => ⟨⟨(), rfl, trivial, f_12, by rw [ht]; exact hP9, hD9⟩, hS.F ht⟩) hS.2.2 dX11_putFour_39
def u_c_X11_putFour_16 : List Cond := .code yX11_putFour cX11_putFour 3 none :: ([.fieldLink RX11 9 "CakePapers" "tape" "[I", .fieldLink RX11 107 "CakePapers" "taped" "I"] ++ wsX110)
theorem iX11_c_X11_putFour_16 : ∀ w ∈ wsX110, w ∈ u_c_X11_putFour_16 := fun w h => List.mem_cons_of_mem _ (List.mem_append_right _ h)
set_option maxHeartbeats 1000000 in
set_option maxRecDepth 100000 in
theorem c_X11_putFour_16 (l : Launch) (dC : Nat → ClassId) (dI : Nat → Nat → Nat) (sz : Nat) (h0 h1 : Nat) (cI : ClassId) (f : Nat → Int32) (fs : List Value) (hn_fs : fs.length = 16) (e_fs_0 : fs[0]? = some (.ref h1)) (e_fs_1 : fs[1]? = some (.int 16)) (p0 : Int32) : Met l yX11_putFour u_c_X11_putFour_16 ({ frames := 0, cells := 0, slots := 0, locals := 0 }) (va_Pc [.ref h0, .int p0] (fun U => U.heap.size = sz ∧ va_P (dC, dI) vwCl [(h0, .inr (11, fs)), (h1, .inl (cI, 1200, .inl f))] U.heap ∧ va_K (dC, dI) vwCl [(cI, .int)] U ∧ va_D (fun _ => True) [(h0, .inr (11, fs)), (h1, .inl (cI, 1200, .inl f))])) (va_Qv (fun (_ : Unit) => True) (fun _ t => ∃ (f_12 : Nat → Int32), va_P (dC, dI) vwCl [(h0, .inr (11, (List.set (List.set (List.set (List.set fs 1 (.int 17)) 1 (.int 18)) 1 (.int 19)) 1 (.int 20)))), (h1, .inl (cI, 1200, .inl f_12))] t.heap ∧ va_D (va_A [(h0, .inr (11, fs)), (h1, .inl (cI, 1200, .inl f))] sz) [(h0, .inr (11, (List.set (List.set (List.set (List.set fs 1 (.int 17)) 1 (.int 18)) 1 (.int 19)) 1 (.int 20)))), (h1, .inl (cI, 1200, .inl f_12))]) (va_A [(h0, .inr (11, fs)), (h1, .inl (cI, 1200, .inl f))] sz)) 0 0 (va_A [(h0, .inr (11, fs)), (h1, .inl (cI, 1200, .inl f))] sz) := by
  refine Met.ofW (cc := cX11_putFour) (maxL := 3) (ret := none) (by decide) rfl ?_
  intro p e s m args below meth c s₁ B hml hv
  obtain ⟨rfl, hsz, hP, hK, hD0⟩ := hv
  have hx := B.exec
  have hb := B.bytes
  have hr := B.returns
  have hts := atoms_spec (ws := u_c_X11_putFour_16) B.pre
  have hown : s.vm.findClass RX11 = some m.cls := findClass_of_methodNamed B.named
  have hlocks := B.notSynchronized
  have hiX11 := iX11_c_X11_putFour_16
  subst hsz
  have hD := hD0.self (sz := s.heap.size)
  generalize hAe : va_A [(h0, .inr (11, fs)), (h1, .inl (cI, 1200, .inl f))] s.heap.size = A at hD ⊢
  have hA : ∀ q : Nat, s.heap.size ≤ q → A q := fun q h => by rw [← hAe]; exact Or.inr h
  have hS : va_S A s.heap s.heap [] := va_S.rf
  obtain ⟨H, hH⟩ : ∃ H : Heap, H = s.heap := ⟨_, rfl⟩
  have hP : va_P (dC, dI) vwCl [(h0, .inr (11, fs)), (h1, .inl (cI, 1200, .inl f))] H := by rw [hH]; exact hP
  have hS : va_S A s.heap H [] := by rw [hH]; exact hS
  have hl := lv_entry ([.ref h0, .int p0]) (n := 3) (Nat.le_of_ble_eq_true rfl)
  rw [lg_entry_eq]
  generalize (lg_sl ([.ref h0, .int p0]) ++ List.replicate (3 - (lg_sl ([.ref h0, .int p0])).length) Slot.unset).toArray = ls at hl ⊢
  have hl : lv_has ls 3 [(0, .ref h0), (1, .int p0)] := hl
  suffices h9 : W p l e (headSpec u_c_X11_putFour_16 _).room s m _ below meth c H [] 0 0 _ (F0 m 0 ls []) by rw [hH] at h9; exact h9
  refine lv_bipush (v := 24) hx hb dX11_putFour_0 (by decide) ?_
  refine lv_istore_n (lv' := [(2, .int 24), (0, .ref h0), (1, .int p0)]) hx hb dX11_putFour_2 rfl hl (by decide) rfl (fun ls hl => ?_)
  refine lv_iload_n hx hb dX11_putFour_3 rfl (lv_at hl 0 rfl) ?_
  refine lv_if_lt (tgt := 39) hx hb dX11_putFour_4 (by decide) (fun c_1 => absurd c_1 (by decide)) (fun c_1 => ?_)
  refine lv_aload_n hx hb dX11_putFour_7 rfl (lv_at hl 1 rfl) ?_
  refine va_get (D := (dC, dI)) (ci := 11) (v := .ref h1) (C := RX11) (T := TX11) (N := 16) hx hb hts hiX11 hown hK hP 0 rfl rfl 0 (by decide) (hts (.fieldLink RX11 9 "CakePapers" "tape" "[I") (by decide +kernel)) (fun _ h9 => h9) e_fs_0 dX11_putFour_8 ?_
  refine lv_aload_n hx hb dX11_putFour_11 rfl (lv_at hl 1 rfl) ?_
  refine va_get (D := (dC, dI)) (ci := 11) (v := .int 16) (C := RX11) (T := TX11) (N := 16) hx hb hts hiX11 hown hK hP 0 rfl rfl 1 (by decide) (hts (.fieldLink RX11 107 "CakePapers" "taped" "I") (by decide +kernel)) (fun _ h9 => h9) e_fs_1 dX11_putFour_12 ?_
  refine lv_iload_n hx hb dX11_putFour_15 rfl (lv_at hl 2 rfl) ?_
  refine lv_iload_n hx hb dX11_putFour_16 rfl (lv_at hl 0 rfl) ?_
  refine lv_iushr (v := (Int32.toUInt32 p0 >>> (Int32.toUInt32 24 &&& Int32.toUInt32 31)).toInt32) hx hb dX11_putFour_17 rfl ?_
  refine lv_topi (fun v_2 _ => ?_)
  refine lv_sipush (v := 255) hx hb dX11_putFour_18 (by decide) ?_
  refine lv_iand hx hb dX11_putFour_21 ?_
  refine va_iast hx hb hK hP hD hS 1 0 rfl rfl (zz_in (by decide)) dX11_putFour_22 (fun H locs hP hD hS => ?_)
  obtain ⟨f_3, hP, hD⟩ : ∃ f_3 : Nat → Int32, va_P (dC, dI) vwCl [(h0, .inr (11, fs)), (h1, .inl (cI, 1200, .inl f_3))] H ∧ va_D A [(h0, .inr (11, fs)), (h1, .inl (cI, 1200, .inl f_3))] := ⟨_, hP, hD⟩
  refine lv_aload_n hx hb dX11_putFour_23 rfl (lv_at hl 1 rfl) ?_
  refine lv_dup hx hb dX11_putFour_24 rfl ?_
  refine va_get (D := (dC, dI)) (ci := 11) (v := .int 16) (C := RX11) (T := TX11) (N := 16) hx hb hts hiX11 hown hK hP 0 rfl rfl 1 (by decide) (hts (.fieldLink RX11 107 "CakePapers" "taped" "I") (by decide +kernel)) (fun _ h9 => h9) e_fs_1 dX11_putFour_25 ?_
  refine lv_iconst (v := 1) hx hb dX11_putFour_28 (by decide) ?_
  refine lv_iadd hx hb dX11_putFour_29 ?_
  refine zz_ci (y := 17) (by decide) ?_
  refine va_put (D := (dC, dI)) (ci := 11) (v := .int 17) (ty := .int) (C := RX11) (T := TX11) (N := 16) hx hb hts hiX11 tyX11 tyX11_ok nmX11 hown hK hP hD hS 0 rfl rfl 1 (by decide) (hts (.fieldLink RX11 107 "CakePapers" "taped" "I") (by decide +kernel)) (fun _ h9 => h9) rfl (by decide +kernel) rfl rfl (by simp [hn_fs]) dX11_putFour_30 (fun H locs hP hD hS => ?_)
  have hP : va_P (dC, dI) vwCl [(h0, .inr (11, (List.set fs 1 (.int 17)))), (h1, .inl (cI, 1200, .inl f_3))] H := hP
  have hD : va_D A [(h0, .inr (11, (List.set fs 1 (.int 17)))), (h1, .inl (cI, 1200, .inl f_3))] := hD
  refine lv_iinc (v := 16) (lv' := [(2, .int 16), (0, .ref h0), (1, .int p0)]) hx hb dX11_putFour_33 hl (k := 0) rfl (by decide) (by decide) rfl (fun ls hl => ?_)
  refine lv_goto (tgt := 3) hx hb dX11_putFour_36 (by decide) ?_
  refine lv_iload_n hx hb dX11_putFour_3 rfl (lv_at hl 0 rfl) ?_
  refine lv_if_lt (tgt := 39) hx hb dX11_putFour_4 (by decide) (fun c_4 => absurd c_4 (by decide)) (fun c_4 => ?_)
  refine lv_aload_n hx hb dX11_putFour_7 rfl (lv_at hl 1 rfl) ?_
  refine va_get (D := (dC, dI)) (ci := 11) (v := .ref h1) (C := RX11) (T := TX11) (N := 16) hx hb hts hiX11 hown hK hP 0 rfl rfl 0 (by decide) (hts (.fieldLink RX11 9 "CakePapers" "tape" "[I") (by decide +kernel)) (fun _ h9 => h9) (by simp [e_fs_0]) dX11_putFour_8 ?_
  refine lv_aload_n hx hb dX11_putFour_11 rfl (lv_at hl 1 rfl) ?_
  refine va_get (D := (dC, dI)) (ci := 11) (v := .int 17) (C := RX11) (T := TX11) (N := 16) hx hb hts hiX11 hown hK hP 0 rfl rfl 1 (by decide) (hts (.fieldLink RX11 107 "CakePapers" "taped" "I") (by decide +kernel)) (fun _ h9 => h9) (by simp [hn_fs]) dX11_putFour_12 ?_
  refine lv_iload_n hx hb dX11_putFour_15 rfl (lv_at hl 2 rfl) ?_
  refine lv_iload_n hx hb dX11_putFour_16 rfl (lv_at hl 0 rfl) ?_
  refine lv_iushr (v := (Int32.toUInt32 p0 >>> (Int32.toUInt32 16 &&& Int32.toUInt32 31)).toInt32) hx hb dX11_putFour_17 rfl ?_
  refine lv_topi (fun v_5 _ => ?_)
  refine lv_sipush (v := 255) hx hb dX11_putFour_18 (by decide) ?_
  refine lv_iand hx hb dX11_putFour_21 ?_
  refine va_iast hx hb hK hP hD hS 1 0 rfl rfl (zz_in (by decide)) dX11_putFour_22 (fun H locs hP hD hS => ?_)
  obtain ⟨f_6, hP, hD⟩ : ∃ f_6 : Nat → Int32, va_P (dC, dI) vwCl [(h0, .inr (11, (List.set fs 1 (.int 17)))), (h1, .inl (cI, 1200, .inl f_6))] H ∧ va_D A [(h0, .inr (11, (List.set fs 1 (.int 17)))), (h1, .inl (cI, 1200, .inl f_6))] := ⟨_, hP, hD⟩
  refine lv_aload_n hx hb dX11_putFour_23 rfl (lv_at hl 1 rfl) ?_
  refine lv_dup hx hb dX11_putFour_24 rfl ?_
  refine va_get (D := (dC, dI)) (ci := 11) (v := .int 17) (C := RX11) (T := TX11) (N := 16) hx hb hts hiX11 hown hK hP 0 rfl rfl 1 (by decide) (hts (.fieldLink RX11 107 "CakePapers" "taped" "I") (by decide +kernel)) (fun _ h9 => h9) (by simp [hn_fs]) dX11_putFour_25 ?_
  refine lv_iconst (v := 1) hx hb dX11_putFour_28 (by decide) ?_
  refine lv_iadd hx hb dX11_putFour_29 ?_
  refine zz_ci (y := 18) (by decide) ?_
  refine va_put (D := (dC, dI)) (ci := 11) (v := .int 18) (ty := .int) (C := RX11) (T := TX11) (N := 16) hx hb hts hiX11 tyX11 tyX11_ok nmX11 hown hK hP hD hS 0 rfl rfl 1 (by decide) (hts (.fieldLink RX11 107 "CakePapers" "taped" "I") (by decide +kernel)) (fun _ h9 => h9) rfl (by decide +kernel) rfl rfl (by simp [hn_fs]) dX11_putFour_30 (fun H locs hP hD hS => ?_)
  have hP : va_P (dC, dI) vwCl [(h0, .inr (11, (List.set (List.set fs 1 (.int 17)) 1 (.int 18)))), (h1, .inl (cI, 1200, .inl f_6))] H := hP
  have hD : va_D A [(h0, .inr (11, (List.set (List.set fs 1 (.int 17)) 1 (.int 18)))), (h1, .inl (cI, 1200, .inl f_6))] := hD
  refine lv_iinc (v := 8) (lv' := [(2, .int 8), (0, .ref h0), (1, .int p0)]) hx hb dX11_putFour_33 hl (k := 0) rfl (by decide) (by decide) rfl (fun ls hl => ?_)
  refine lv_goto (tgt := 3) hx hb dX11_putFour_36 (by decide) ?_
  refine lv_iload_n hx hb dX11_putFour_3 rfl (lv_at hl 0 rfl) ?_
  refine lv_if_lt (tgt := 39) hx hb dX11_putFour_4 (by decide) (fun c_7 => absurd c_7 (by decide)) (fun c_7 => ?_)
  refine lv_aload_n hx hb dX11_putFour_7 rfl (lv_at hl 1 rfl) ?_
  refine va_get (D := (dC, dI)) (ci := 11) (v := .ref h1) (C := RX11) (T := TX11) (N := 16) hx hb hts hiX11 hown hK hP 0 rfl rfl 0 (by decide) (hts (.fieldLink RX11 9 "CakePapers" "tape" "[I") (by decide +kernel)) (fun _ h9 => h9) (by simp [e_fs_0]) dX11_putFour_8 ?_
  refine lv_aload_n hx hb dX11_putFour_11 rfl (lv_at hl 1 rfl) ?_
  refine va_get (D := (dC, dI)) (ci := 11) (v := .int 18) (C := RX11) (T := TX11) (N := 16) hx hb hts hiX11 hown hK hP 0 rfl rfl 1 (by decide) (hts (.fieldLink RX11 107 "CakePapers" "taped" "I") (by decide +kernel)) (fun _ h9 => h9) (by simp [hn_fs]) dX11_putFour_12 ?_
  refine lv_iload_n hx hb dX11_putFour_15 rfl (lv_at hl 2 rfl) ?_
  refine lv_iload_n hx hb dX11_putFour_16 rfl (lv_at hl 0 rfl) ?_
  refine lv_iushr (v := (Int32.toUInt32 p0 >>> (Int32.toUInt32 8 &&& Int32.toUInt32 31)).toInt32) hx hb dX11_putFour_17 rfl ?_
  refine lv_topi (fun v_8 _ => ?_)
  refine lv_sipush (v := 255) hx hb dX11_putFour_18 (by decide) ?_
  refine lv_iand hx hb dX11_putFour_21 ?_
  refine va_iast hx hb hK hP hD hS 1 0 rfl rfl (zz_in (by decide)) dX11_putFour_22 (fun H locs hP hD hS => ?_)
  obtain ⟨f_9, hP, hD⟩ : ∃ f_9 : Nat → Int32, va_P (dC, dI) vwCl [(h0, .inr (11, (List.set (List.set fs 1 (.int 17)) 1 (.int 18)))), (h1, .inl (cI, 1200, .inl f_9))] H ∧ va_D A [(h0, .inr (11, (List.set (List.set fs 1 (.int 17)) 1 (.int 18)))), (h1, .inl (cI, 1200, .inl f_9))] := ⟨_, hP, hD⟩
  refine lv_aload_n hx hb dX11_putFour_23 rfl (lv_at hl 1 rfl) ?_
  refine lv_dup hx hb dX11_putFour_24 rfl ?_
  refine va_get (D := (dC, dI)) (ci := 11) (v := .int 18) (C := RX11) (T := TX11) (N := 16) hx hb hts hiX11 hown hK hP 0 rfl rfl 1 (by decide) (hts (.fieldLink RX11 107 "CakePapers" "taped" "I") (by decide +kernel)) (fun _ h9 => h9) (by simp [hn_fs]) dX11_putFour_25 ?_
  refine lv_iconst (v := 1) hx hb dX11_putFour_28 (by decide) ?_
  refine lv_iadd hx hb dX11_putFour_29 ?_
  refine zz_ci (y := 19) (by decide) ?_
  refine va_put (D := (dC, dI)) (ci := 11) (v := .int 19) (ty := .int) (C := RX11) (T := TX11) (N := 16) hx hb hts hiX11 tyX11 tyX11_ok nmX11 hown hK hP hD hS 0 rfl rfl 1 (by decide) (hts (.fieldLink RX11 107 "CakePapers" "taped" "I") (by decide +kernel)) (fun _ h9 => h9) rfl (by decide +kernel) rfl rfl (by simp [hn_fs]) dX11_putFour_30 (fun H locs hP hD hS => ?_)
  have hP : va_P (dC, dI) vwCl [(h0, .inr (11, (List.set (List.set (List.set fs 1 (.int 17)) 1 (.int 18)) 1 (.int 19)))), (h1, .inl (cI, 1200, .inl f_9))] H := hP
  have hD : va_D A [(h0, .inr (11, (List.set (List.set (List.set fs 1 (.int 17)) 1 (.int 18)) 1 (.int 19)))), (h1, .inl (cI, 1200, .inl f_9))] := hD
  refine lv_iinc (v := 0) (lv' := [(2, .int 0), (0, .ref h0), (1, .int p0)]) hx hb dX11_putFour_33 hl (k := 0) rfl (by decide) (by decide) rfl (fun ls hl => ?_)
  refine lv_goto (tgt := 3) hx hb dX11_putFour_36 (by decide) ?_
  refine lv_iload_n hx hb dX11_putFour_3 rfl (lv_at hl 0 rfl) ?_
  refine lv_if_lt (tgt := 39) hx hb dX11_putFour_4 (by decide) (fun c_10 => absurd c_10 (by decide)) (fun c_10 => ?_)
  refine lv_aload_n hx hb dX11_putFour_7 rfl (lv_at hl 1 rfl) ?_
  refine va_get (D := (dC, dI)) (ci := 11) (v := .ref h1) (C := RX11) (T := TX11) (N := 16) hx hb hts hiX11 hown hK hP 0 rfl rfl 0 (by decide) (hts (.fieldLink RX11 9 "CakePapers" "tape" "[I") (by decide +kernel)) (fun _ h9 => h9) (by simp [e_fs_0]) dX11_putFour_8 ?_
  refine lv_aload_n hx hb dX11_putFour_11 rfl (lv_at hl 1 rfl) ?_
  refine va_get (D := (dC, dI)) (ci := 11) (v := .int 19) (C := RX11) (T := TX11) (N := 16) hx hb hts hiX11 hown hK hP 0 rfl rfl 1 (by decide) (hts (.fieldLink RX11 107 "CakePapers" "taped" "I") (by decide +kernel)) (fun _ h9 => h9) (by simp [hn_fs]) dX11_putFour_12 ?_
  refine lv_iload_n hx hb dX11_putFour_15 rfl (lv_at hl 2 rfl) ?_
  refine lv_iload_n hx hb dX11_putFour_16 rfl (lv_at hl 0 rfl) ?_
  refine lv_iushr (v := (Int32.toUInt32 p0 >>> (Int32.toUInt32 0 &&& Int32.toUInt32 31)).toInt32) hx hb dX11_putFour_17 rfl ?_
  refine lv_topi (fun v_11 _ => ?_)
  refine lv_sipush (v := 255) hx hb dX11_putFour_18 (by decide) ?_
  refine lv_iand hx hb dX11_putFour_21 ?_
  refine va_iast hx hb hK hP hD hS 1 0 rfl rfl (zz_in (by decide)) dX11_putFour_22 (fun H locs hP hD hS => ?_)
  obtain ⟨f_12, hP, hD⟩ : ∃ f_12 : Nat → Int32, va_P (dC, dI) vwCl [(h0, .inr (11, (List.set (List.set (List.set fs 1 (.int 17)) 1 (.int 18)) 1 (.int 19)))), (h1, .inl (cI, 1200, .inl f_12))] H ∧ va_D A [(h0, .inr (11, (List.set (List.set (List.set fs 1 (.int 17)) 1 (.int 18)) 1 (.int 19)))), (h1, .inl (cI, 1200, .inl f_12))] := ⟨_, hP, hD⟩
  refine lv_aload_n hx hb dX11_putFour_23 rfl (lv_at hl 1 rfl) ?_
  refine lv_dup hx hb dX11_putFour_24 rfl ?_
  refine va_get (D := (dC, dI)) (ci := 11) (v := .int 19) (C := RX11) (T := TX11) (N := 16) hx hb hts hiX11 hown hK hP 0 rfl rfl 1 (by decide) (hts (.fieldLink RX11 107 "CakePapers" "taped" "I") (by decide +kernel)) (fun _ h9 => h9) (by simp [hn_fs]) dX11_putFour_25 ?_
  refine lv_iconst (v := 1) hx hb dX11_putFour_28 (by decide) ?_
  refine lv_iadd hx hb dX11_putFour_29 ?_
  refine zz_ci (y := 20) (by decide) ?_
  refine va_put (D := (dC, dI)) (ci := 11) (v := .int 20) (ty := .int) (C := RX11) (T := TX11) (N := 16) hx hb hts hiX11 tyX11 tyX11_ok nmX11 hown hK hP hD hS 0 rfl rfl 1 (by decide) (hts (.fieldLink RX11 107 "CakePapers" "taped" "I") (by decide +kernel)) (fun _ h9 => h9) rfl (by decide +kernel) rfl rfl (by simp [hn_fs]) dX11_putFour_30 (fun H locs hP hD hS => ?_)
  have hP : va_P (dC, dI) vwCl [(h0, .inr (11, (List.set (List.set (List.set (List.set fs 1 (.int 17)) 1 (.int 18)) 1 (.int 19)) 1 (.int 20)))), (h1, .inl (cI, 1200, .inl f_12))] H := hP
  have hD : va_D A [(h0, .inr (11, (List.set (List.set (List.set (List.set fs 1 (.int 17)) 1 (.int 18)) 1 (.int 19)) 1 (.int 20)))), (h1, .inl (cI, 1200, .inl f_12))] := hD
  refine lv_iinc (v := (-8)) (lv' := [(2, .int (-8)), (0, .ref h0), (1, .int p0)]) hx hb dX11_putFour_33 hl (k := 0) rfl (by decide) (by decide) rfl (fun ls hl => ?_)
  refine lv_goto (tgt := 3) hx hb dX11_putFour_36 (by decide) ?_
  refine lv_iload_n hx hb dX11_putFour_3 rfl (lv_at hl 0 rfl) ?_
  refine lv_if_lt (tgt := 39) hx hb dX11_putFour_4 (by decide) (fun c_13 => ?_) (fun c_13 => absurd c_13 (by decide))
  refine W.widen (k := 0) (n := 0) (Nat.le_of_ble_eq_true rfl) (Nat.le_of_ble_eq_true rfl) ?_
  have hP9 := hP.sub (ws' := [(h0, .inr (11, (List.set (List.set (List.set (List.set fs 1 (.int 17)) 1 (.int 18)) 1 (.int 19)) 1 (.int 20)))), (h1, .inl (cI, 1200, .inl f_12))]) [0, 1] rfl
  have hD9 := hD.sub (ws' := [(h0, .inr (11, (List.set (List.set (List.set (List.set fs 1 (.int 17)) 1 (.int 18)) 1 (.int 19)) 1 (.int 20)))), (h1, .inl (cI, 1200, .inl f_12))]) [0, 1] (by decide) rfl
  exact W.vret hx hb hr (fun t ht hW => ⟨⟨(), rfl, trivial, f_12, by rw [ht]; exact hP9, hD9⟩, hS.F ht⟩) hS.2.2 dX11_putFour_39
def u_c_X11_feed : List Cond := .code yX11_feed cX11_feed 6 (some .int) :: ([.fieldLink RX11 107 "CakePapers" "taped" "I", .code yX11_putFour cX11_putFour 3 none, .fieldLink RX11 9 "CakePapers" "tape" "[I", .methodLink RX11 110 yX11_putFour, .instanceMethod yX11_putFour, .selects RX11 yX11_putFour yX11_putFour, .initialized RX11] ++ wsX110)
theorem iX11_c_X11_feed : ∀ w ∈ wsX110, w ∈ u_c_X11_feed := fun w h => List.mem_cons_of_mem _ (List.mem_append_right _ h)
set_option maxRecDepth 20000 in
theorem g_c_X11_feed_c_X11_putFour_0_0 : GoodIn u_c_X11_feed (wsV RX11 110 RX11 yX11_putFour u_c_X11_putFour_0) := goodIn_app (goodIn_of _ (by decide +kernel)) (goodIn_ca (goodIn_of (.code yX11_putFour cX11_putFour 3 none :: [.fieldLink RX11 9 "CakePapers" "tape" "[I", .fieldLink RX11 107 "CakePapers" "taped" "I"]) (by decide +kernel)) (goodIn_sub iX11_c_X11_feed zgX11))
set_option maxRecDepth 20000 in
theorem g_c_X11_feed_c_X11_putFour_4_1 : GoodIn u_c_X11_feed (wsV RX11 110 RX11 yX11_putFour u_c_X11_putFour_4) := goodIn_app (goodIn_of _ (by decide +kernel)) (goodIn_ca (goodIn_of (.code yX11_putFour cX11_putFour 3 none :: [.fieldLink RX11 9 "CakePapers" "tape" "[I", .fieldLink RX11 107 "CakePapers" "taped" "I"]) (by decide +kernel)) (goodIn_sub iX11_c_X11_feed zgX11))
set_option maxRecDepth 20000 in
theorem g_c_X11_feed_c_X11_putFour_8_2 : GoodIn u_c_X11_feed (wsV RX11 110 RX11 yX11_putFour u_c_X11_putFour_8) := goodIn_app (goodIn_of _ (by decide +kernel)) (goodIn_ca (goodIn_of (.code yX11_putFour cX11_putFour 3 none :: [.fieldLink RX11 9 "CakePapers" "tape" "[I", .fieldLink RX11 107 "CakePapers" "taped" "I"]) (by decide +kernel)) (goodIn_sub iX11_c_X11_feed zgX11))
set_option maxRecDepth 20000 in
theorem g_c_X11_feed_c_X11_putFour_12_3 : GoodIn u_c_X11_feed (wsV RX11 110 RX11 yX11_putFour u_c_X11_putFour_12) := goodIn_app (goodIn_of _ (by decide +kernel)) (goodIn_ca (goodIn_of (.code yX11_putFour cX11_putFour 3 none :: [.fieldLink RX11 9 "CakePapers" "tape" "[I", .fieldLink RX11 107 "CakePapers" "taped" "I"]) (by decide +kernel)) (goodIn_sub iX11_c_X11_feed zgX11))
set_option maxRecDepth 20000 in
theorem g_c_X11_feed_c_X11_putFour_16_4 : GoodIn u_c_X11_feed (wsV RX11 110 RX11 yX11_putFour u_c_X11_putFour_16) := goodIn_app (goodIn_of _ (by decide +kernel)) (goodIn_ca (goodIn_of (.code yX11_putFour cX11_putFour 3 none :: [.fieldLink RX11 9 "CakePapers" "tape" "[I", .fieldLink RX11 107 "CakePapers" "taped" "I"]) (by decide +kernel)) (goodIn_sub iX11_c_X11_feed zgX11))
set_option maxHeartbeats 1000000 in
set_option maxRecDepth 100000 in
theorem c_X11_feed (l : Launch) (dC : Nat → ClassId) (dI : Nat → Nat → Nat) (sz : Nat) (h0 h1 : Nat) (cI : ClassId) (f : Nat → Int32) (fs : List Value) (hn_fs : fs.length = 16) (e_fs_0 : fs[0]? = some (.ref h1)) (e_fs_1 : fs[1]? = some (.int 0)) (p0 : Int32) (p1 : Int32) (p2 : Int32) (p3 : Int32) (p4 : Int32) : Met l yX11_feed u_c_X11_feed ({ frames := 1, cells := 0, slots := 0, locals := 22 }) (va_Pc [.ref h0, .int p0, .int p1, .int p2, .int p3, .int p4] (fun U => U.heap.size = sz ∧ va_P (dC, dI) vwCl [(h0, .inr (11, fs)), (h1, .inl (cI, 1200, .inl f))] U.heap ∧ va_K (dC, dI) vwCl [(cI, .int)] U ∧ va_D (fun _ => True) [(h0, .inr (11, fs)), (h1, .inl (cI, 1200, .inl f))])) (va_Qi (fun (r : Int32) (_ : Unit) => r = 20) (fun _ _ => True) (va_A [(h0, .inr (11, fs)), (h1, .inl (cI, 1200, .inl f))] sz)) 0 0 (va_A [(h0, .inr (11, fs)), (h1, .inl (cI, 1200, .inl f))] sz) := by
  refine Met.ofW (cc := cX11_feed) (maxL := 6) (ret := (some .int)) (by decide) rfl ?_
  intro p e s m args below meth c s₁ B hml hv
  obtain ⟨rfl, hsz, hP, hK, hD0⟩ := hv
  have hx := B.exec
  have hb := B.bytes
  have hr := B.returns
  have hts := atoms_spec (ws := u_c_X11_feed) B.pre
  have hown : s.vm.findClass RX11 = some m.cls := findClass_of_methodNamed B.named
  have hlocks := B.notSynchronized
  have hiX11 := iX11_c_X11_feed
  subst hsz
  have hD := hD0.self (sz := s.heap.size)
  generalize hAe : va_A [(h0, .inr (11, fs)), (h1, .inl (cI, 1200, .inl f))] s.heap.size = A at hD ⊢
  have hA : ∀ q : Nat, s.heap.size ≤ q → A q := fun q h => by rw [← hAe]; exact Or.inr h
  have hS : va_S A s.heap s.heap [] := va_S.rf
  obtain ⟨H, hH⟩ : ∃ H : Heap, H = s.heap := ⟨_, rfl⟩
  have hP : va_P (dC, dI) vwCl [(h0, .inr (11, fs)), (h1, .inl (cI, 1200, .inl f))] H := by rw [hH]; exact hP
  have hS : va_S A s.heap H [] := by rw [hH]; exact hS
  have hl := lv_entry ([.ref h0, .int p0, .int p1, .int p2, .int p3, .int p4]) (n := 6) (Nat.le_of_ble_eq_true rfl)
  rw [lg_entry_eq]
  generalize (lg_sl ([.ref h0, .int p0, .int p1, .int p2, .int p3, .int p4]) ++ List.replicate (6 - (lg_sl ([.ref h0, .int p0, .int p1, .int p2, .int p3, .int p4])).length) Slot.unset).toArray = ls at hl ⊢
  have hl : lv_has ls 6 [(0, .ref h0), (1, .int p0), (2, .int p1), (3, .int p2), (4, .int p3), (5, .int p4)] := hl
  suffices h9 : W p l e (headSpec u_c_X11_feed _).room s m _ below meth c H [] 0 0 _ (F0 m 0 ls []) by rw [hH] at h9; exact h9
  refine lv_aload_n hx hb dX11_feed_0 rfl (lv_at hl 0 rfl) ?_
  refine va_get (D := (dC, dI)) (ci := 11) (v := .int 0) (C := RX11) (T := TX11) (N := 16) hx hb hts hiX11 hown hK hP 0 rfl rfl 1 (by decide) (hts (.fieldLink RX11 107 "CakePapers" "taped" "I") (by decide +kernel)) (fun _ h9 => h9) e_fs_1 dX11_feed_1 ?_
  refine lv_bipush (v := 20) hx hb dX11_feed_4 (by decide) ?_
  refine lv_iadd hx hb dX11_feed_6 ?_
  refine zz_ci (y := 20) (by decide) ?_
  refine lv_sipush (v := 1200) hx hb dX11_feed_7 (by decide) ?_
  refine lv_icmp_le (tgt := 15) hx hb dX11_feed_10 (by decide) (fun c_1 => ?_) (fun c_1 => absurd c_1 (by decide))
  refine lv_aload_n hx hb dX11_feed_15 rfl (lv_at hl 0 rfl) ?_
  refine lv_iload_n hx hb dX11_feed_16 rfl (lv_at hl 1 rfl) ?_
  have hPc := hP.sub (ws' := [(h0, .inr (11, fs)), (h1, .inl (cI, 1200, .inl f))]) [0, 1] rfl
  have hDc := hD.sub (ws' := [(h0, .inr (11, fs)), (h1, .inl (cI, 1200, .inl f))]) [0, 1] (by decide) rfl
  have hKc := hK.sub (tys' := [(cI, .int)]) [0] rfl
  have hFc := va_free (wc := [(h0, .inr (11, fs)), (h1, .inl (cI, 1200, .inl f))]) hD hS hA [0, 1] rfl
  refine va_callv (va_runV (As := [.int p0]) (rest := []) ⟨hx, hb, hml, hown, hts⟩ (c_X11_putFour_0 l dC dI H.size h0 h1 cI f fs hn_fs e_fs_0 e_fs_1 p0) (cwV 1 hts g_c_X11_feed_c_X11_putFour_0_0 rfl rfl rfl (by decide +kernel) ⟨Nat.le_of_ble_eq_true rfl, Nat.le_of_ble_eq_true rfl⟩) ⟨fun a U g mk q => by obtain ⟨q0, q1, qP, qK, qD⟩ := q; exact ⟨q0, q1, qP, va_K.moved (u := U) (U := U.calling g mk a) (Vm.Alike.refl U.vm) qK, qD⟩, va_recv hKc hPc (ci := 11) (q0 := 0) rfl rfl, fun U hU hW => ⟨rfl, by rw [hU], by rw [hU]; exact hPc, va_K.moved hW.alike hKc, hDc.weaken (fun _ _ _ _ => trivial)⟩⟩ rfl rfl hl.1 rfl (lv_room (Nat.le_of_ble_eq_true rfl)) dX11_feed_17 ⟨Nat.le_of_ble_eq_true rfl, Nat.le_of_ble_eq_true rfl⟩) hS (fun q _ h => hFc q h) hFc (fun u t H1 locs ht hvm hw hB hz1 hk1 hS => ?_)
  obtain ⟨f_12_2, hP1, hD1⟩ := hB
  rw [ht] at hP1
  obtain ⟨hP, hD⟩ := va_join (wr := []) (w1 := [(h0, .inr (11, (List.set (List.set (List.set (List.set fs 1 (.int 1)) 1 (.int 2)) 1 (.int 3)) 1 (.int 4)))), (h1, .inl (cI, 1200, .inl f_12_2))]) hP hD [0, 1] [] rfl rfl (by decide) (by decide) hk1 hFc hP1 hD1
  generalize H1 = H at hP hS ⊢
  have hP : va_P (dC, dI) vwCl [(h0, .inr (11, (List.set (List.set (List.set (List.set fs 1 (.int 1)) 1 (.int 2)) 1 (.int 3)) 1 (.int 4)))), (h1, .inl (cI, 1200, .inl f_12_2))] H := hP
  have hD : va_D A [(h0, .inr (11, (List.set (List.set (List.set (List.set fs 1 (.int 1)) 1 (.int 2)) 1 (.int 3)) 1 (.int 4)))), (h1, .inl (cI, 1200, .inl f_12_2))] := hD
  refine W.widen (k := 0) (n := 0) (Nat.le_of_ble_eq_true rfl) (Nat.le_of_ble_eq_true rfl) ?_
  refine lv_aload_n hx hb dX11_feed_20 rfl (lv_at hl 0 rfl) ?_
  refine lv_iload_n hx hb dX11_feed_21 rfl (lv_at hl 2 rfl) ?_
  have hPc := hP.sub (ws' := [(h0, .inr (11, (List.set (List.set (List.set (List.set fs 1 (.int 1)) 1 (.int 2)) 1 (.int 3)) 1 (.int 4)))), (h1, .inl (cI, 1200, .inl f_12_2))]) [0, 1] rfl
  have hDc := hD.sub (ws' := [(h0, .inr (11, (List.set (List.set (List.set (List.set fs 1 (.int 1)) 1 (.int 2)) 1 (.int 3)) 1 (.int 4)))), (h1, .inl (cI, 1200, .inl f_12_2))]) [0, 1] (by decide) rfl
  have hKc := hK.sub (tys' := [(cI, .int)]) [0] rfl
  have hFc := va_free (wc := [(h0, .inr (11, (List.set (List.set (List.set (List.set fs 1 (.int 1)) 1 (.int 2)) 1 (.int 3)) 1 (.int 4)))), (h1, .inl (cI, 1200, .inl f_12_2))]) hD hS hA [0, 1] rfl
  refine va_callv (va_runV (As := [.int p1]) (rest := []) ⟨hx, hb, hml, hown, hts⟩ (c_X11_putFour_4 l dC dI H.size h0 h1 cI f_12_2 (List.set (List.set (List.set (List.set fs 1 (.int 1)) 1 (.int 2)) 1 (.int 3)) 1 (.int 4)) (by simp [hn_fs]) (by simp [e_fs_0]) (by simp [hn_fs]) p1) (cwV 1 hts g_c_X11_feed_c_X11_putFour_4_1 rfl rfl rfl (by decide +kernel) ⟨Nat.le_of_ble_eq_true rfl, Nat.le_of_ble_eq_true rfl⟩) ⟨fun a U g mk q => by obtain ⟨q0, q1, qP, qK, qD⟩ := q; exact ⟨q0, q1, qP, va_K.moved (u := U) (U := U.calling g mk a) (Vm.Alike.refl U.vm) qK, qD⟩, va_recv hKc hPc (ci := 11) (q0 := 0) rfl rfl, fun U hU hW => ⟨rfl, by rw [hU], by rw [hU]; exact hPc, va_K.moved hW.alike hKc, hDc.weaken (fun _ _ _ _ => trivial)⟩⟩ rfl rfl hl.1 rfl (lv_room (Nat.le_of_ble_eq_true rfl)) dX11_feed_22 ⟨Nat.le_of_ble_eq_true rfl, Nat.le_of_ble_eq_true rfl⟩) hS (fun q _ h => hFc q h) hFc (fun u t H1 locs ht hvm hw hB hz1 hk1 hS => ?_)
  obtain ⟨f_12_3, hP1, hD1⟩ := hB
  rw [ht] at hP1
  obtain ⟨hP, hD⟩ := va_join (wr := []) (w1 := [(h0, .inr (11, (List.set (List.set (List.set (List.set (List.set (List.set (List.set (List.set fs 1 (.int 1)) 1 (.int 2)) 1 (.int 3)) 1 (.int 4)) 1 (.int 5)) 1 (.int 6)) 1 (.int 7)) 1 (.int 8)))), (h1, .inl (cI, 1200, .inl f_12_3))]) hP hD [0, 1] [] rfl rfl (by decide) (by decide) hk1 hFc hP1 hD1
  generalize H1 = H at hP hS ⊢
  have hP : va_P (dC, dI) vwCl [(h0, .inr (11, (List.set (List.set (List.set (List.set (List.set (List.set (List.set (List.set fs 1 (.int 1)) 1 (.int 2)) 1 (.int 3)) 1 (.int 4)) 1 (.int 5)) 1 (.int 6)) 1 (.int 7)) 1 (.int 8)))), (h1, .inl (cI, 1200, .inl f_12_3))] H := hP
  have hD : va_D A [(h0, .inr (11, (List.set (List.set (List.set (List.set (List.set (List.set (List.set (List.set fs 1 (.int 1)) 1 (.int 2)) 1 (.int 3)) 1 (.int 4)) 1 (.int 5)) 1 (.int 6)) 1 (.int 7)) 1 (.int 8)))), (h1, .inl (cI, 1200, .inl f_12_3))] := hD
  refine W.widen (k := 0) (n := 0) (Nat.le_of_ble_eq_true rfl) (Nat.le_of_ble_eq_true rfl) ?_
  refine lv_aload_n hx hb dX11_feed_25 rfl (lv_at hl 0 rfl) ?_
  refine lv_iload_n hx hb dX11_feed_26 rfl (lv_at hl 3 rfl) ?_
  have hPc := hP.sub (ws' := [(h0, .inr (11, (List.set (List.set (List.set (List.set (List.set (List.set (List.set (List.set fs 1 (.int 1)) 1 (.int 2)) 1 (.int 3)) 1 (.int 4)) 1 (.int 5)) 1 (.int 6)) 1 (.int 7)) 1 (.int 8)))), (h1, .inl (cI, 1200, .inl f_12_3))]) [0, 1] rfl
  have hDc := hD.sub (ws' := [(h0, .inr (11, (List.set (List.set (List.set (List.set (List.set (List.set (List.set (List.set fs 1 (.int 1)) 1 (.int 2)) 1 (.int 3)) 1 (.int 4)) 1 (.int 5)) 1 (.int 6)) 1 (.int 7)) 1 (.int 8)))), (h1, .inl (cI, 1200, .inl f_12_3))]) [0, 1] (by decide) rfl
  have hKc := hK.sub (tys' := [(cI, .int)]) [0] rfl
  have hFc := va_free (wc := [(h0, .inr (11, (List.set (List.set (List.set (List.set (List.set (List.set (List.set (List.set fs 1 (.int 1)) 1 (.int 2)) 1 (.int 3)) 1 (.int 4)) 1 (.int 5)) 1 (.int 6)) 1 (.int 7)) 1 (.int 8)))), (h1, .inl (cI, 1200, .inl f_12_3))]) hD hS hA [0, 1] rfl
  refine va_callv (va_runV (As := [.int p2]) (rest := []) ⟨hx, hb, hml, hown, hts⟩ (c_X11_putFour_8 l dC dI H.size h0 h1 cI f_12_3 (List.set (List.set (List.set (List.set (List.set (List.set (List.set (List.set fs 1 (.int 1)) 1 (.int 2)) 1 (.int 3)) 1 (.int 4)) 1 (.int 5)) 1 (.int 6)) 1 (.int 7)) 1 (.int 8)) (by simp [hn_fs]) (by simp [e_fs_0]) (by simp [hn_fs]) p2) (cwV 1 hts g_c_X11_feed_c_X11_putFour_8_2 rfl rfl rfl (by decide +kernel) ⟨Nat.le_of_ble_eq_true rfl, Nat.le_of_ble_eq_true rfl⟩) ⟨fun a U g mk q => by obtain ⟨q0, q1, qP, qK, qD⟩ := q; exact ⟨q0, q1, qP, va_K.moved (u := U) (U := U.calling g mk a) (Vm.Alike.refl U.vm) qK, qD⟩, va_recv hKc hPc (ci := 11) (q0 := 0) rfl rfl, fun U hU hW => ⟨rfl, by rw [hU], by rw [hU]; exact hPc, va_K.moved hW.alike hKc, hDc.weaken (fun _ _ _ _ => trivial)⟩⟩ rfl rfl hl.1 rfl (lv_room (Nat.le_of_ble_eq_true rfl)) dX11_feed_27 ⟨Nat.le_of_ble_eq_true rfl, Nat.le_of_ble_eq_true rfl⟩) hS (fun q _ h => hFc q h) hFc (fun u t H1 locs ht hvm hw hB hz1 hk1 hS => ?_)
  obtain ⟨f_12_4, hP1, hD1⟩ := hB
  rw [ht] at hP1
  obtain ⟨hP, hD⟩ := va_join (wr := []) (w1 := [(h0, .inr (11, (List.set (List.set (List.set (List.set (List.set (List.set (List.set (List.set (List.set (List.set (List.set (List.set fs 1 (.int 1)) 1 (.int 2)) 1 (.int 3)) 1 (.int 4)) 1 (.int 5)) 1 (.int 6)) 1 (.int 7)) 1 (.int 8)) 1 (.int 9)) 1 (.int 10)) 1 (.int 11)) 1 (.int 12)))), (h1, .inl (cI, 1200, .inl f_12_4))]) hP hD [0, 1] [] rfl rfl (by decide) (by decide) hk1 hFc hP1 hD1
  generalize H1 = H at hP hS ⊢
  have hP : va_P (dC, dI) vwCl [(h0, .inr (11, (List.set (List.set (List.set (List.set (List.set (List.set (List.set (List.set (List.set (List.set (List.set (List.set fs 1 (.int 1)) 1 (.int 2)) 1 (.int 3)) 1 (.int 4)) 1 (.int 5)) 1 (.int 6)) 1 (.int 7)) 1 (.int 8)) 1 (.int 9)) 1 (.int 10)) 1 (.int 11)) 1 (.int 12)))), (h1, .inl (cI, 1200, .inl f_12_4))] H := hP
  have hD : va_D A [(h0, .inr (11, (List.set (List.set (List.set (List.set (List.set (List.set (List.set (List.set (List.set (List.set (List.set (List.set fs 1 (.int 1)) 1 (.int 2)) 1 (.int 3)) 1 (.int 4)) 1 (.int 5)) 1 (.int 6)) 1 (.int 7)) 1 (.int 8)) 1 (.int 9)) 1 (.int 10)) 1 (.int 11)) 1 (.int 12)))), (h1, .inl (cI, 1200, .inl f_12_4))] := hD
  refine W.widen (k := 0) (n := 0) (Nat.le_of_ble_eq_true rfl) (Nat.le_of_ble_eq_true rfl) ?_
  refine lv_aload_n hx hb dX11_feed_30 rfl (lv_at hl 0 rfl) ?_
  refine lv_iload hx hb dX11_feed_31 (lv_at hl 4 rfl) ?_
  have hPc := hP.sub (ws' := [(h0, .inr (11, (List.set (List.set (List.set (List.set (List.set (List.set (List.set (List.set (List.set (List.set (List.set (List.set fs 1 (.int 1)) 1 (.int 2)) 1 (.int 3)) 1 (.int 4)) 1 (.int 5)) 1 (.int 6)) 1 (.int 7)) 1 (.int 8)) 1 (.int 9)) 1 (.int 10)) 1 (.int 11)) 1 (.int 12)))), (h1, .inl (cI, 1200, .inl f_12_4))]) [0, 1] rfl
  have hDc := hD.sub (ws' := [(h0, .inr (11, (List.set (List.set (List.set (List.set (List.set (List.set (List.set (List.set (List.set (List.set (List.set (List.set fs 1 (.int 1)) 1 (.int 2)) 1 (.int 3)) 1 (.int 4)) 1 (.int 5)) 1 (.int 6)) 1 (.int 7)) 1 (.int 8)) 1 (.int 9)) 1 (.int 10)) 1 (.int 11)) 1 (.int 12)))), (h1, .inl (cI, 1200, .inl f_12_4))]) [0, 1] (by decide) rfl
  have hKc := hK.sub (tys' := [(cI, .int)]) [0] rfl
  have hFc := va_free (wc := [(h0, .inr (11, (List.set (List.set (List.set (List.set (List.set (List.set (List.set (List.set (List.set (List.set (List.set (List.set fs 1 (.int 1)) 1 (.int 2)) 1 (.int 3)) 1 (.int 4)) 1 (.int 5)) 1 (.int 6)) 1 (.int 7)) 1 (.int 8)) 1 (.int 9)) 1 (.int 10)) 1 (.int 11)) 1 (.int 12)))), (h1, .inl (cI, 1200, .inl f_12_4))]) hD hS hA [0, 1] rfl
  refine va_callv (va_runV (As := [.int p3]) (rest := []) ⟨hx, hb, hml, hown, hts⟩ (c_X11_putFour_12 l dC dI H.size h0 h1 cI f_12_4 (List.set (List.set (List.set (List.set (List.set (List.set (List.set (List.set (List.set (List.set (List.set (List.set fs 1 (.int 1)) 1 (.int 2)) 1 (.int 3)) 1 (.int 4)) 1 (.int 5)) 1 (.int 6)) 1 (.int 7)) 1 (.int 8)) 1 (.int 9)) 1 (.int 10)) 1 (.int 11)) 1 (.int 12)) (by simp [hn_fs]) (by simp [e_fs_0]) (by simp [hn_fs]) p3) (cwV 1 hts g_c_X11_feed_c_X11_putFour_12_3 rfl rfl rfl (by decide +kernel) ⟨Nat.le_of_ble_eq_true rfl, Nat.le_of_ble_eq_true rfl⟩) ⟨fun a U g mk q => by obtain ⟨q0, q1, qP, qK, qD⟩ := q; exact ⟨q0, q1, qP, va_K.moved (u := U) (U := U.calling g mk a) (Vm.Alike.refl U.vm) qK, qD⟩, va_recv hKc hPc (ci := 11) (q0 := 0) rfl rfl, fun U hU hW => ⟨rfl, by rw [hU], by rw [hU]; exact hPc, va_K.moved hW.alike hKc, hDc.weaken (fun _ _ _ _ => trivial)⟩⟩ rfl rfl hl.1 rfl (lv_room (Nat.le_of_ble_eq_true rfl)) dX11_feed_33 ⟨Nat.le_of_ble_eq_true rfl, Nat.le_of_ble_eq_true rfl⟩) hS (fun q _ h => hFc q h) hFc (fun u t H1 locs ht hvm hw hB hz1 hk1 hS => ?_)
  obtain ⟨f_12_5, hP1, hD1⟩ := hB
  rw [ht] at hP1
  obtain ⟨hP, hD⟩ := va_join (wr := []) (w1 := [(h0, .inr (11, (List.set (List.set (List.set (List.set (List.set (List.set (List.set (List.set (List.set (List.set (List.set (List.set (List.set (List.set (List.set (List.set fs 1 (.int 1)) 1 (.int 2)) 1 (.int 3)) 1 (.int 4)) 1 (.int 5)) 1 (.int 6)) 1 (.int 7)) 1 (.int 8)) 1 (.int 9)) 1 (.int 10)) 1 (.int 11)) 1 (.int 12)) 1 (.int 13)) 1 (.int 14)) 1 (.int 15)) 1 (.int 16)))), (h1, .inl (cI, 1200, .inl f_12_5))]) hP hD [0, 1] [] rfl rfl (by decide) (by decide) hk1 hFc hP1 hD1
  generalize H1 = H at hP hS ⊢
  have hP : va_P (dC, dI) vwCl [(h0, .inr (11, (List.set (List.set (List.set (List.set (List.set (List.set (List.set (List.set (List.set (List.set (List.set (List.set (List.set (List.set (List.set (List.set fs 1 (.int 1)) 1 (.int 2)) 1 (.int 3)) 1 (.int 4)) 1 (.int 5)) 1 (.int 6)) 1 (.int 7)) 1 (.int 8)) 1 (.int 9)) 1 (.int 10)) 1 (.int 11)) 1 (.int 12)) 1 (.int 13)) 1 (.int 14)) 1 (.int 15)) 1 (.int 16)))), (h1, .inl (cI, 1200, .inl f_12_5))] H := hP
  have hD : va_D A [(h0, .inr (11, (List.set (List.set (List.set (List.set (List.set (List.set (List.set (List.set (List.set (List.set (List.set (List.set (List.set (List.set (List.set (List.set fs 1 (.int 1)) 1 (.int 2)) 1 (.int 3)) 1 (.int 4)) 1 (.int 5)) 1 (.int 6)) 1 (.int 7)) 1 (.int 8)) 1 (.int 9)) 1 (.int 10)) 1 (.int 11)) 1 (.int 12)) 1 (.int 13)) 1 (.int 14)) 1 (.int 15)) 1 (.int 16)))), (h1, .inl (cI, 1200, .inl f_12_5))] := hD
  refine W.widen (k := 0) (n := 0) (Nat.le_of_ble_eq_true rfl) (Nat.le_of_ble_eq_true rfl) ?_
  refine lv_aload_n hx hb dX11_feed_36 rfl (lv_at hl 0 rfl) ?_
  refine lv_iload hx hb dX11_feed_37 (lv_at hl 5 rfl) ?_
  have hPc := hP.sub (ws' := [(h0, .inr (11, (List.set (List.set (List.set (List.set (List.set (List.set (List.set (List.set (List.set (List.set (List.set (List.set (List.set (List.set (List.set (List.set fs 1 (.int 1)) 1 (.int 2)) 1 (.int 3)) 1 (.int 4)) 1 (.int 5)) 1 (.int 6)) 1 (.int 7)) 1 (.int 8)) 1 (.int 9)) 1 (.int 10)) 1 (.int 11)) 1 (.int 12)) 1 (.int 13)) 1 (.int 14)) 1 (.int 15)) 1 (.int 16)))), (h1, .inl (cI, 1200, .inl f_12_5))]) [0, 1] rfl
  have hDc := hD.sub (ws' := [(h0, .inr (11, (List.set (List.set (List.set (List.set (List.set (List.set (List.set (List.set (List.set (List.set (List.set (List.set (List.set (List.set (List.set (List.set fs 1 (.int 1)) 1 (.int 2)) 1 (.int 3)) 1 (.int 4)) 1 (.int 5)) 1 (.int 6)) 1 (.int 7)) 1 (.int 8)) 1 (.int 9)) 1 (.int 10)) 1 (.int 11)) 1 (.int 12)) 1 (.int 13)) 1 (.int 14)) 1 (.int 15)) 1 (.int 16)))), (h1, .inl (cI, 1200, .inl f_12_5))]) [0, 1] (by decide) rfl
  have hKc := hK.sub (tys' := [(cI, .int)]) [0] rfl
  have hFc := va_free (wc := [(h0, .inr (11, (List.set (List.set (List.set (List.set (List.set (List.set (List.set (List.set (List.set (List.set (List.set (List.set (List.set (List.set (List.set (List.set fs 1 (.int 1)) 1 (.int 2)) 1 (.int 3)) 1 (.int 4)) 1 (.int 5)) 1 (.int 6)) 1 (.int 7)) 1 (.int 8)) 1 (.int 9)) 1 (.int 10)) 1 (.int 11)) 1 (.int 12)) 1 (.int 13)) 1 (.int 14)) 1 (.int 15)) 1 (.int 16)))), (h1, .inl (cI, 1200, .inl f_12_5))]) hD hS hA [0, 1] rfl
  refine va_callv (va_runV (As := [.int p4]) (rest := []) ⟨hx, hb, hml, hown, hts⟩ (c_X11_putFour_16 l dC dI H.size h0 h1 cI f_12_5 (List.set (List.set (List.set (List.set (List.set (List.set (List.set (List.set (List.set (List.set (List.set (List.set (List.set (List.set (List.set (List.set fs 1 (.int 1)) 1 (.int 2)) 1 (.int 3)) 1 (.int 4)) 1 (.int 5)) 1 (.int 6)) 1 (.int 7)) 1 (.int 8)) 1 (.int 9)) 1 (.int 10)) 1 (.int 11)) 1 (.int 12)) 1 (.int 13)) 1 (.int 14)) 1 (.int 15)) 1 (.int 16)) (by simp [hn_fs]) (by simp [e_fs_0]) (by simp [hn_fs]) p4) (cwV 1 hts g_c_X11_feed_c_X11_putFour_16_4 rfl rfl rfl (by decide +kernel) ⟨Nat.le_of_ble_eq_true rfl, Nat.le_of_ble_eq_true rfl⟩) ⟨fun a U g mk q => by obtain ⟨q0, q1, qP, qK, qD⟩ := q; exact ⟨q0, q1, qP, va_K.moved (u := U) (U := U.calling g mk a) (Vm.Alike.refl U.vm) qK, qD⟩, va_recv hKc hPc (ci := 11) (q0 := 0) rfl rfl, fun U hU hW => ⟨rfl, by rw [hU], by rw [hU]; exact hPc, va_K.moved hW.alike hKc, hDc.weaken (fun _ _ _ _ => trivial)⟩⟩ rfl rfl hl.1 rfl (lv_room (Nat.le_of_ble_eq_true rfl)) dX11_feed_39 ⟨Nat.le_of_ble_eq_true rfl, Nat.le_of_ble_eq_true rfl⟩) hS (fun q _ h => hFc q h) hFc (fun u t H1 locs ht hvm hw hB hz1 hk1 hS => ?_)
  obtain ⟨f_12_6, hP1, hD1⟩ := hB
  rw [ht] at hP1
  obtain ⟨hP, hD⟩ := va_join (wr := []) (w1 := [(h0, .inr (11, (List.set (List.set (List.set (List.set (List.set (List.set (List.set (List.set (List.set (List.set (List.set (List.set (List.set (List.set (List.set (List.set (List.set (List.set (List.set (List.set fs 1 (.int 1)) 1 (.int 2)) 1 (.int 3)) 1 (.int 4)) 1 (.int 5)) 1 (.int 6)) 1 (.int 7)) 1 (.int 8)) 1 (.int 9)) 1 (.int 10)) 1 (.int 11)) 1 (.int 12)) 1 (.int 13)) 1 (.int 14)) 1 (.int 15)) 1 (.int 16)) 1 (.int 17)) 1 (.int 18)) 1 (.int 19)) 1 (.int 20)))), (h1, .inl (cI, 1200, .inl f_12_6))]) hP hD [0, 1] [] rfl rfl (by decide) (by decide) hk1 hFc hP1 hD1
  generalize H1 = H at hP hS ⊢
  have hP : va_P (dC, dI) vwCl [(h0, .inr (11, (List.set (List.set (List.set (List.set (List.set (List.set (List.set (List.set (List.set (List.set (List.set (List.set (List.set (List.set (List.set (List.set (List.set (List.set (List.set (List.set fs 1 (.int 1)) 1 (.int 2)) 1 (.int 3)) 1 (.int 4)) 1 (.int 5)) 1 (.int 6)) 1 (.int 7)) 1 (.int 8)) 1 (.int 9)) 1 (.int 10)) 1 (.int 11)) 1 (.int 12)) 1 (.int 13)) 1 (.int 14)) 1 (.int 15)) 1 (.int 16)) 1 (.int 17)) 1 (.int 18)) 1 (.int 19)) 1 (.int 20)))), (h1, .inl (cI, 1200, .inl f_12_6))] H := hP
  have hD : va_D A [(h0, .inr (11, (List.set (List.set (List.set (List.set (List.set (List.set (List.set (List.set (List.set (List.set (List.set (List.set (List.set (List.set (List.set (List.set (List.set (List.set (List.set (List.set fs 1 (.int 1)) 1 (.int 2)) 1 (.int 3)) 1 (.int 4)) 1 (.int 5)) 1 (.int 6)) 1 (.int 7)) 1 (.int 8)) 1 (.int 9)) 1 (.int 10)) 1 (.int 11)) 1 (.int 12)) 1 (.int 13)) 1 (.int 14)) 1 (.int 15)) 1 (.int 16)) 1 (.int 17)) 1 (.int 18)) 1 (.int 19)) 1 (.int 20)))), (h1, .inl (cI, 1200, .inl f_12_6))] := hD
  refine W.widen (k := 0) (n := 0) (Nat.le_of_ble_eq_true rfl) (Nat.le_of_ble_eq_true rfl) ?_
  refine lv_aload_n hx hb dX11_feed_42 rfl (lv_at hl 0 rfl) ?_
  refine va_get (D := (dC, dI)) (ci := 11) (v := .int 20) (C := RX11) (T := TX11) (N := 16) hx hb hts hiX11 hown hK hP 0 rfl rfl 1 (by decide) (hts (.fieldLink RX11 107 "CakePapers" "taped" "I") (by decide +kernel)) (fun _ h9 => h9) (by simp [hn_fs]) dX11_feed_43 ?_
  refine W.widen (k := 0) (n := 0) (Nat.le_of_ble_eq_true rfl) (Nat.le_of_ble_eq_true rfl) ?_
  exact W.iret (v := 20) hx hb hr (fun t ht hW => ⟨⟨20, (), rfl, rfl, trivial⟩, hS.F ht⟩) hS.2.2 dX11_feed_46
def u_c_X1_add : List Cond := .code yX1_add cX1_add 2 (some .int) :: ([.code yX1_isFull cX1_isFull 1 (some .boolean), .fieldLink RX1 24 "CakePapers$Desk" "count" "I", .methodLink RX1 28 yX1_isFull, .instanceMethod yX1_isFull, .selects RX1 yX1_isFull yX1_isFull, .initialized RX1, .fieldLink RX1 13 "CakePapers$Desk" "papers" "[LCakePapers$Paper;"] ++ wsX10 ++ wsX60)
theorem iX1_c_X1_add : ∀ w ∈ wsX10, w ∈ u_c_X1_add := fun w h => List.mem_cons_of_mem _ (List.mem_append_left _ (List.mem_append_right _ h))
theorem iX6_c_X1_add : ∀ w ∈ wsX60, w ∈ u_c_X1_add := fun w h => List.mem_cons_of_mem _ (List.mem_append_right _ h)
set_option maxRecDepth 20000 in
theorem g_c_X1_add_c_X1_isFull_0 : GoodIn u_c_X1_add (wsV RX1 28 RX1 yX1_isFull u_c_X1_isFull) := goodIn_app (goodIn_of _ (by decide +kernel)) (goodIn_ca (goodIn_of (.code yX1_isFull cX1_isFull 1 (some .boolean) :: [.fieldLink RX1 24 "CakePapers$Desk" "count" "I"]) (by decide +kernel)) (goodIn_sub iX1_c_X1_add zgX1))
set_option maxHeartbeats 1000000 in
set_option maxRecDepth 100000 in
theorem c_X1_add (l : Launch) (dC : Nat → ClassId) (dI : Nat → Nat → Nat) (sz : Nat) (h0 h1 h2 : Nat) (cP : ClassId) (f : Nat → Option Nat) (fs : List Value) (hn_fs : fs.length = 3) (e_fs_0 : fs[0]? = some (.ref h2)) (e_fs_2 : fs[2]? = some (.int 0)) (gs : List Value) (hn_gs : gs.length = 14) : Met l yX1_add u_c_X1_add ({ frames := 1, cells := 0, slots := 0, locals := 20 }) (va_Pc [.ref h0, .ref h1] (fun U => U.heap.size = sz ∧ va_P (dC, dI) vwCl [(h0, .inr (1, fs)), (h1, .inr (6, gs)), (h2, .inl (cP, 8, .inr (.inr (.inr (.inr f)))))] U.heap ∧ va_K (dC, dI) vwCl [(cP, (.object RX6))] U ∧ va_D (fun _ => True) [(h0, .inr (1, fs)), (h1, .inr (6, gs)), (h2, .inl (cP, 8, .inr (.inr (.inr (.inr f)))))])) (va_Qi (fun (r : Int32) (_ : Unit) => r = 0) (fun _ _ => True) (va_A [(h0, .inr (1, fs)), (h1, .inr (6, gs)), (h2, .inl (cP, 8, .inr (.inr (.inr (.inr f)))))] sz)) 0 0 (va_A [(h0, .inr (1, fs)), (h1, .inr (6, gs)), (h2, .inl (cP, 8, .inr (.inr (.inr (.inr f)))))] sz) := by
  refine Met.ofW (cc := cX1_add) (maxL := 2) (ret := (some .int)) (by decide) rfl ?_
  intro p e s m args below meth c s₁ B hml hv
  obtain ⟨rfl, hsz, hP, hK, hD0⟩ := hv
  have hx := B.exec
  have hb := B.bytes
  have hr := B.returns
  have hts := atoms_spec (ws := u_c_X1_add) B.pre
  have hown : s.vm.findClass RX1 = some m.cls := findClass_of_methodNamed B.named
  have hlocks := B.notSynchronized
  have hiX1 := iX1_c_X1_add
  have hiX6 := iX6_c_X1_add
  subst hsz
  have hD := hD0.self (sz := s.heap.size)
  generalize hAe : va_A [(h0, .inr (1, fs)), (h1, .inr (6, gs)), (h2, .inl (cP, 8, .inr (.inr (.inr (.inr f)))))] s.heap.size = A at hD ⊢
  have hA : ∀ q : Nat, s.heap.size ≤ q → A q := fun q h => by rw [← hAe]; exact Or.inr h
  have hS : va_S A s.heap s.heap [] := va_S.rf
  obtain ⟨H, hH⟩ : ∃ H : Heap, H = s.heap := ⟨_, rfl⟩
  have hP : va_P (dC, dI) vwCl [(h0, .inr (1, fs)), (h1, .inr (6, gs)), (h2, .inl (cP, 8, .inr (.inr (.inr (.inr f)))))] H := by rw [hH]; exact hP
  have hS : va_S A s.heap H [] := by rw [hH]; exact hS
  have hl := lv_entry ([.ref h0, .ref h1]) (n := 2) (Nat.le_of_ble_eq_true rfl)
  rw [lg_entry_eq]
  generalize (lg_sl ([.ref h0, .ref h1]) ++ List.replicate (2 - (lg_sl ([.ref h0, .ref h1])).length) Slot.unset).toArray = ls at hl ⊢
  have hl : lv_has ls 2 [(0, .ref h0), (1, .ref h1)] := hl
  suffices h9 : W p l e (headSpec u_c_X1_add _).room s m _ below meth c H [] 0 0 _ (F0 m 0 ls []) by rw [hH] at h9; exact h9
  refine lv_aload_n hx hb dX1_add_0 rfl (lv_at hl 0 rfl) ?_
  have hPc := hP.sub (ws' := [(h0, .inr (1, fs))]) [0] rfl
  have hDc := hD.sub (ws' := [(h0, .inr (1, fs))]) [0] (by decide) rfl
  have hKc := hK.sub (tys' := []) [] rfl
  have hFc := va_free (wc := [(h0, .inr (1, fs))]) hD hS hA [0] rfl
  refine va_calli (va_runV (As := []) (rest := []) ⟨hx, hb, hml, hown, hts⟩ (c_X1_isFull l dC dI H.size h0 fs hn_fs e_fs_2) (cwV 0 hts g_c_X1_add_c_X1_isFull_0 rfl rfl rfl (by decide +kernel) ⟨Nat.le_of_ble_eq_true rfl, Nat.le_of_ble_eq_true rfl⟩) ⟨fun a U g mk q => by obtain ⟨q0, q1, qP, qK, qD⟩ := q; exact ⟨q0, q1, qP, va_K.moved (u := U) (U := U.calling g mk a) (Vm.Alike.refl U.vm) qK, qD⟩, va_recv hKc hPc (ci := 1) (q0 := 0) rfl rfl, fun U hU hW => ⟨rfl, by rw [hU], by rw [hU]; exact hPc, va_K.moved hW.alike hKc, hDc.weaken (fun _ _ _ _ => trivial)⟩⟩ rfl rfl hl.1 rfl (lv_room (Nat.le_of_ble_eq_true rfl)) dX1_add_1 ⟨Nat.le_of_ble_eq_true rfl, Nat.le_of_ble_eq_true rfl⟩) hS (fun q _ h => hFc q h) hFc (fun r_1 u t H1 locs ht hvm hw hB hz1 hk1 hS => ?_)
  obtain ⟨hP1, hD1⟩ := hB
  rw [ht] at hP1
  obtain ⟨hP, hD⟩ := va_join (wr := [(h1, .inr (6, gs)), (h2, .inl (cP, 8, .inr (.inr (.inr (.inr f)))))]) (w1 := [(h0, .inr (1, fs))]) hP hD [0] [1, 2] rfl rfl (by decide) (by decide) hk1 hFc hP1 hD1
  generalize H1 = H at hP hS ⊢
  have hP : va_P (dC, dI) vwCl [(h1, .inr (6, gs)), (h2, .inl (cP, 8, .inr (.inr (.inr (.inr f))))), (h0, .inr (1, fs))] H := hP
  have hD : va_D A [(h1, .inr (6, gs)), (h2, .inl (cP, 8, .inr (.inr (.inr (.inr f))))), (h0, .inr (1, fs))] := hD
  refine W.widen (k := 0) (n := 0) (Nat.le_of_ble_eq_true rfl) (Nat.le_of_ble_eq_true rfl) ?_
  refine zz_ci (y := 0) hw ?_
  refine lv_if_ne (tgt := 14) hx hb dX1_add_4 (by decide) (fun c_2 => absurd c_2 (by decide)) (fun c_2 => ?_)
  refine lv_aload_n hx hb dX1_add_7 rfl (lv_at hl 0 rfl) ?_
  refine va_get (D := (dC, dI)) (ci := 1) (v := .int 0) (C := RX1) (T := TX1) (N := 3) hx hb hts hiX1 hown hK hP 2 rfl rfl 2 (by decide) (hts (.fieldLink RX1 24 "CakePapers$Desk" "count" "I") (by decide +kernel)) (fun _ h9 => h9) e_fs_2 dX1_add_8 ?_
  refine lv_if_ge (tgt := 16) hx hb dX1_add_11 (by decide) (fun c_3 => ?_) (fun c_3 => absurd c_3 (by decide))
  refine lv_aload_n hx hb dX1_add_16 rfl (lv_at hl 0 rfl) ?_
  refine va_get (D := (dC, dI)) (ci := 1) (v := .ref h2) (C := RX1) (T := TX1) (N := 3) hx hb hts hiX1 hown hK hP 2 rfl rfl 0 (by decide) (hts (.fieldLink RX1 13 "CakePapers$Desk" "papers" "[LCakePapers$Paper;") (by decide +kernel)) (fun _ h9 => h9) e_fs_0 dX1_add_17 ?_
  refine lv_aload_n hx hb dX1_add_20 rfl (lv_at hl 0 rfl) ?_
  refine va_get (D := (dC, dI)) (ci := 1) (v := .int 0) (C := RX1) (T := TX1) (N := 3) hx hb hts hiX1 hown hK hP 2 rfl rfl 2 (by decide) (hts (.fieldLink RX1 24 "CakePapers$Desk" "count" "I") (by decide +kernel)) (fun _ h9 => h9) e_fs_2 dX1_add_21 ?_
  refine lv_aload_n hx hb dX1_add_24 rfl (lv_at hl 1 rfl) ?_
  refine va_astq (r := (RX6, TX6, 14)) hx hb hK hP hD hS 1 0 0 6 rfl rfl rfl rfl (zz_in (by decide)) dX1_add_25 (fun H locs hP hD hS => ?_)
  obtain ⟨f_4, hP, hD⟩ : ∃ f_4 : Nat → Option Nat, va_P (dC, dI) vwCl [(h1, .inr (6, gs)), (h2, .inl (cP, 8, .inr (.inr (.inr (.inr f_4))))), (h0, .inr (1, fs))] H ∧ va_D A [(h1, .inr (6, gs)), (h2, .inl (cP, 8, .inr (.inr (.inr (.inr f_4))))), (h0, .inr (1, fs))] := ⟨_, hP, hD⟩
  refine lv_aload_n hx hb dX1_add_26 rfl (lv_at hl 0 rfl) ?_
  refine lv_dup hx hb dX1_add_27 rfl ?_
  refine va_get (D := (dC, dI)) (ci := 1) (v := .int 0) (C := RX1) (T := TX1) (N := 3) hx hb hts hiX1 hown hK hP 2 rfl rfl 2 (by decide) (hts (.fieldLink RX1 24 "CakePapers$Desk" "count" "I") (by decide +kernel)) (fun _ h9 => h9) e_fs_2 dX1_add_28 ?_
  refine lv_iconst (v := 1) hx hb dX1_add_31 (by decide) ?_
  refine lv_iadd hx hb dX1_add_32 ?_
  refine zz_ci (y := 1) (by decide) ?_
  refine va_put (D := (dC, dI)) (ci := 1) (v := .int 1) (ty := .int) (C := RX1) (T := TX1) (N := 3) hx hb hts hiX1 tyX1 tyX1_ok nmX1 hown hK hP hD hS 2 rfl rfl 2 (by decide) (hts (.fieldLink RX1 24 "CakePapers$Desk" "count" "I") (by decide +kernel)) (fun _ h9 => h9) rfl (by decide +kernel) rfl rfl (by simp [hn_fs]) dX1_add_33 (fun H locs hP hD hS => ?_)
  have hP : va_P (dC, dI) vwCl [(h1, .inr (6, gs)), (h2, .inl (cP, 8, .inr (.inr (.inr (.inr f_4))))), (h0, .inr (1, (List.set fs 2 (.int 1))))] H := hP
  have hD : va_D A [(h1, .inr (6, gs)), (h2, .inl (cP, 8, .inr (.inr (.inr (.inr f_4))))), (h0, .inr (1, (List.set fs 2 (.int 1))))] := hD
  refine lv_aload_n hx hb dX1_add_36 rfl (lv_at hl 0 rfl) ?_
  refine va_get (D := (dC, dI)) (ci := 1) (v := .int 1) (C := RX1) (T := TX1) (N := 3) hx hb hts hiX1 hown hK hP 2 rfl rfl 2 (by decide) (hts (.fieldLink RX1 24 "CakePapers$Desk" "count" "I") (by decide +kernel)) (fun _ h9 => h9) (by simp [hn_fs]) dX1_add_37 ?_
  refine lv_iconst (v := 1) hx hb dX1_add_40 (by decide) ?_
  refine lv_isub hx hb dX1_add_41 ?_
  refine zz_ci (y := 0) (by decide) ?_
  refine W.widen (k := 0) (n := 0) (Nat.le_of_ble_eq_true rfl) (Nat.le_of_ble_eq_true rfl) ?_
  exact W.iret (v := 0) hx hb hr (fun t ht hW => ⟨⟨0, (), rfl, rfl, trivial⟩, hS.F ht⟩) hS.2.2 dX1_add_42
def u_c_X11_keep : List Cond := .code yX11_keepSparePaper cX11_keepSparePaper 2 (some .int) :: ([.fieldLink RX11 39 "CakePapers" "desk" "LCakePapers$Desk;", .fieldLink RX11 56 "CakePapers" "sparePaper" "LCakePapers$Paper;", .code yX1_add cX1_add 2 (some .int), .code yX1_isFull cX1_isFull 1 (some .boolean), .fieldLink RX1 24 "CakePapers$Desk" "count" "I", .methodLink RX1 28 yX1_isFull, .instanceMethod yX1_isFull, .selects RX1 yX1_isFull yX1_isFull, .initialized RX1, .fieldLink RX1 13 "CakePapers$Desk" "papers" "[LCakePapers$Paper;", .methodLink RX11 129 yX1_add, .instanceMethod yX1_add, .selects RX1 yX1_add yX1_add, .classLink RX11 51 RX6, .instantiable RX6 14, .initialized RX6, .code yX6_init cX6_init 3 none, .methodLink RX6 3 objectInit, .instanceMethod objectInit, .code objectInit ⟨#[0xb1]⟩ 1 none, .methodLink RX6 9 Lib.Math.max.name, .static Lib.Math.max.name, .initialized "java/lang/Math", .code Lib.Math.max.name Lib.Math.max.code 2 (some .int), .arrayClass .long, .fieldLink RX6 15 "CakePapers$Paper" "makes" "[J", .fieldLink RX6 21 "CakePapers$Paper" "verbs" "[J", .arrayClass .int, .fieldLink RX6 24 "CakePapers$Paper" "much" "[I", .fieldLink RX6 28 "CakePapers$Paper" "lasts" "[I", .fieldLink RX6 31 "CakePapers$Paper" "needCount" "[I", .fieldLink RX6 34 "CakePapers$Paper" "needs" "[J", .fieldLink RX6 37 "CakePapers$Paper" "makers" "[I", .arrayClass .boolean, .fieldLink RX6 40 "CakePapers$Paper" "isEnd" "[Z", .fieldLink RX6 44 "CakePapers$Paper" "reach" "[I", .methodLink RX11 53 yX6_init, .instanceMethod yX6_init] ++ wsX110 ++ wsX10 ++ wsX60)
theorem iX11_c_X11_keep : ∀ w ∈ wsX110, w ∈ u_c_X11_keep := fun w h => List.mem_cons_of_mem _ (List.mem_append_left _ (List.mem_append_left _ (List.mem_append_right _ h)))
theorem iX1_c_X11_keep : ∀ w ∈ wsX10, w ∈ u_c_X11_keep := fun w h => List.mem_cons_of_mem _ (List.mem_append_left _ (List.mem_append_right _ h))
theorem iX6_c_X11_keep : ∀ w ∈ wsX60, w ∈ u_c_X11_keep := fun w h => List.mem_cons_of_mem _ (List.mem_append_right _ h)
set_option maxRecDepth 20000 in
theorem g_c_X11_keep_c_X1_add_0 : GoodIn u_c_X11_keep (wsV RX11 129 RX1 yX1_add u_c_X1_add) := goodIn_app (goodIn_of _ (by decide +kernel)) (goodIn_ca (goodIn_ca (goodIn_of (.code yX1_add cX1_add 2 (some .int) :: [.code yX1_isFull cX1_isFull 1 (some .boolean), .fieldLink RX1 24 "CakePapers$Desk" "count" "I", .methodLink RX1 28 yX1_isFull, .instanceMethod yX1_isFull, .selects RX1 yX1_isFull yX1_isFull, .initialized RX1, .fieldLink RX1 13 "CakePapers$Desk" "papers" "[LCakePapers$Paper;"]) (by decide +kernel)) (goodIn_sub iX1_c_X11_keep zgX1)) (goodIn_sub iX6_c_X11_keep zgX6))
set_option maxRecDepth 20000 in
theorem g_c_X11_keep_c_X6_init_1 : GoodIn u_c_X11_keep (u_c_X6_init) := (goodIn_ca (goodIn_of (.code yX6_init cX6_init 3 none :: [.methodLink RX6 3 objectInit, .instanceMethod objectInit, .code objectInit ⟨#[0xb1]⟩ 1 none, .methodLink RX6 9 Lib.Math.max.name, .static Lib.Math.max.name, .initialized "java/lang/Math", .code Lib.Math.max.name Lib.Math.max.code 2 (some .int), .arrayClass .long, .fieldLink RX6 15 "CakePapers$Paper" "makes" "[J", .fieldLink RX6 21 "CakePapers$Paper" "verbs" "[J", .arrayClass .int, .fieldLink RX6 24 "CakePapers$Paper" "much" "[I", .fieldLink RX6 28 "CakePapers$Paper" "lasts" "[I", .fieldLink RX6 31 "CakePapers$Paper" "needCount" "[I", .fieldLink RX6 34 "CakePapers$Paper" "needs" "[J", .fieldLink RX6 37 "CakePapers$Paper" "makers" "[I", .arrayClass .boolean, .fieldLink RX6 40 "CakePapers$Paper" "isEnd" "[Z", .fieldLink RX6 44 "CakePapers$Paper" "reach" "[I"]) (by decide +kernel)) (goodIn_sub iX6_c_X11_keep zgX6))
set_option maxHeartbeats 1000000 in
set_option maxRecDepth 100000 in
theorem c_X11_keep (l : Launch) (dC : Nat → ClassId) (dI : Nat → Nat → Nat) (sz : Nat) (h0 h1 h2 h3 : Nat) (cP : ClassId) (f : Nat → Option Nat) (fs : List Value) (hn_fs : fs.length = 16) (e_fs_5 : fs[5]? = some (.ref h1)) (e_fs_7 : fs[7]? = some (.ref h2)) (gs : List Value) (hn_gs : gs.length = 3) (e_gs_0 : gs[0]? = some (.ref h3)) (e_gs_2 : gs[2]? = some (.int 0)) (ps : List Value) (hn_ps : ps.length = 14) : Met l yX11_keepSparePaper u_c_X11_keep ({ frames := 2, cells := 10, slots := 194, locals := 43 }) (va_Pc [.ref h0] (fun U => U.heap.size = sz ∧ va_P (dC, dI) vwCl [(h0, .inr (11, fs)), (h1, .inr (1, gs)), (h2, .inr (6, ps)), (h3, .inl (cP, 8, .inr (.inr (.inr (.inr f)))))] U.heap ∧ va_K (dC, dI) vwCl [(cP, (.object RX6))] U ∧ va_D (fun _ => True) [(h0, .inr (11, fs)), (h1, .inr (1, gs)), (h2, .inr (6, ps)), (h3, .inl (cP, 8, .inr (.inr (.inr (.inr f)))))])) (va_Qi (fun (r : Int32) (_ : Unit) => r = 0) (fun _ _ => True) (va_A [(h0, .inr (11, fs)), (h1, .inr (1, gs)), (h2, .inr (6, ps)), (h3, .inl (cP, 8, .inr (.inr (.inr (.inr f)))))] sz)) 10 194 (va_A [(h0, .inr (11, fs)), (h1, .inr (1, gs)), (h2, .inr (6, ps)), (h3, .inl (cP, 8, .inr (.inr (.inr (.inr f)))))] sz) := by
  refine Met.ofW (cc := cX11_keepSparePaper) (maxL := 2) (ret := (some .int)) (by decide) rfl ?_
  intro p e s m args below meth c s₁ B hml hv
  obtain ⟨rfl, hsz, hP, hK, hD0⟩ := hv
  have hx := B.exec
  have hb := B.bytes
  have hr := B.returns
  have hts := atoms_spec (ws := u_c_X11_keep) B.pre
  have hown : s.vm.findClass RX11 = some m.cls := findClass_of_methodNamed B.named
  have hlocks := B.notSynchronized
  have hiX11 := iX11_c_X11_keep
  have hiX1 := iX1_c_X11_keep
  have hiX6 := iX6_c_X11_keep
  subst hsz
  have hD := hD0.self (sz := s.heap.size)
  generalize hAe : va_A [(h0, .inr (11, fs)), (h1, .inr (1, gs)), (h2, .inr (6, ps)), (h3, .inl (cP, 8, .inr (.inr (.inr (.inr f)))))] s.heap.size = A at hD ⊢
  have hA : ∀ q : Nat, s.heap.size ≤ q → A q := fun q h => by rw [← hAe]; exact Or.inr h
  have hS : va_S A s.heap s.heap [] := va_S.rf
  obtain ⟨H, hH⟩ : ∃ H : Heap, H = s.heap := ⟨_, rfl⟩
  have hP : va_P (dC, dI) vwCl [(h0, .inr (11, fs)), (h1, .inr (1, gs)), (h2, .inr (6, ps)), (h3, .inl (cP, 8, .inr (.inr (.inr (.inr f)))))] H := by rw [hH]; exact hP
  have hS : va_S A s.heap H [] := by rw [hH]; exact hS
  have hl := lv_entry ([.ref h0]) (n := 2) (Nat.le_of_ble_eq_true rfl)
  rw [lg_entry_eq]
  generalize (lg_sl ([.ref h0]) ++ List.replicate (2 - (lg_sl ([.ref h0])).length) Slot.unset).toArray = ls at hl ⊢
  have hl : lv_has ls 2 [(0, .ref h0)] := hl
  suffices h9 : W p l e (headSpec u_c_X11_keep _).room s m _ below meth c H [] 0 0 _ (F0 m 0 ls []) by rw [hH] at h9; exact h9
  refine lv_aload_n hx hb dX11_keepSparePaper_0 rfl (lv_at hl 0 rfl) ?_
  refine va_get (D := (dC, dI)) (ci := 11) (v := .ref h1) (C := RX11) (T := TX11) (N := 16) hx hb hts hiX11 hown hK hP 0 rfl rfl 5 (by decide) (hts (.fieldLink RX11 39 "CakePapers" "desk" "LCakePapers$Desk;") (by decide +kernel)) (fun _ h9 => h9) e_fs_5 dX11_keepSparePaper_1 ?_
  refine lv_aload_n hx hb dX11_keepSparePaper_4 rfl (lv_at hl 0 rfl) ?_
  refine va_get (D := (dC, dI)) (ci := 11) (v := .ref h2) (C := RX11) (T := TX11) (N := 16) hx hb hts hiX11 hown hK hP 0 rfl rfl 7 (by decide) (hts (.fieldLink RX11 56 "CakePapers" "sparePaper" "LCakePapers$Paper;") (by decide +kernel)) (fun _ h9 => h9) e_fs_7 dX11_keepSparePaper_5 ?_
  have hPc := hP.sub (ws' := [(h1, .inr (1, gs)), (h2, .inr (6, ps)), (h3, .inl (cP, 8, .inr (.inr (.inr (.inr f)))))]) [1, 2, 3] rfl
  have hDc := hD.sub (ws' := [(h1, .inr (1, gs)), (h2, .inr (6, ps)), (h3, .inl (cP, 8, .inr (.inr (.inr (.inr f)))))]) [1, 2, 3] (by decide) rfl
  have hKc := hK.sub (tys' := [(cP, (.object RX6))]) [0] rfl
  have hFc := va_free (wc := [(h1, .inr (1, gs)), (h2, .inr (6, ps)), (h3, .inl (cP, 8, .inr (.inr (.inr (.inr f)))))]) hD hS hA [1, 2, 3] rfl
  refine va_calli (va_runV (As := [.ref h2]) (rest := []) ⟨hx, hb, hml, hown, hts⟩ (c_X1_add l dC dI H.size h1 h2 h3 cP f gs hn_gs e_gs_0 e_gs_2 ps hn_ps) (cwV 1 hts g_c_X11_keep_c_X1_add_0 rfl rfl rfl (by decide +kernel) ⟨Nat.le_of_ble_eq_true rfl, Nat.le_of_ble_eq_true rfl⟩) ⟨fun a U g mk q => by obtain ⟨q0, q1, qP, qK, qD⟩ := q; exact ⟨q0, q1, qP, va_K.moved (u := U) (U := U.calling g mk a) (Vm.Alike.refl U.vm) qK, qD⟩, va_recv hKc hPc (ci := 1) (q0 := 0) rfl rfl, fun U hU hW => ⟨rfl, by rw [hU], by rw [hU]; exact hPc, va_K.moved hW.alike hKc, hDc.weaken (fun _ _ _ _ => trivial)⟩⟩ rfl rfl hl.1 rfl (lv_room (Nat.le_of_ble_eq_true rfl)) dX11_keepSparePaper_8 ⟨Nat.le_of_ble_eq_true rfl, Nat.le_of_ble_eq_true rfl⟩) hS (fun q _ h => hFc q h) hFc (fun r_1 u t H1 locs ht hvm hw hB hz1 hk1 hS => ?_)
  obtain ⟨hP, hD⟩ := va_join (wr := [(h0, .inr (11, fs))]) (w1 := []) hP hD [1, 2, 3] [0] rfl rfl (by decide) (by decide) hk1 hFc zz_P0 zz_D0
  generalize H1 = H at hP hS ⊢
  have hP : va_P (dC, dI) vwCl [(h0, .inr (11, fs))] H := hP
  have hD : va_D A [(h0, .inr (11, fs))] := hD
  refine W.widen (k := 0) (n := 0) (Nat.le_of_ble_eq_true rfl) (Nat.le_of_ble_eq_true rfl) ?_
  refine zz_ci (y := 0) hw ?_
  refine lv_istore_n (lv' := [(1, .int 0), (0, .ref h0)]) hx hb dX11_keepSparePaper_11 rfl hl (by decide) rfl (fun ls hl => ?_)
  refine lv_aload_n hx hb dX11_keepSparePaper_12 rfl (lv_at hl 1 rfl) ?_
  refine va_new (ci := 6) (fs := [.null, .null, .null, .null, .null, .null, .null, .null, .null, .int 0, .int 0, .int 0, .int 0, .int 0]) (C := RX6) (T := TX6) (N := 14) hx hb hts hiX6 tyX6 tyX6_ok hown (hts (.classLink RX11 51 RX6) (by decide +kernel)) (hts (.instantiable RX6 14) (by decide +kernel)) (hts (.initialized RX6) (by decide +kernel)) hK hP hD hS hA rfl (by decide +kernel) (Nat.le_of_ble_eq_true rfl) (Nat.le_of_ble_eq_true rfl) dX11_keepSparePaper_13 (fun q_2 H hP hD hS => ?_)
  have hP : va_P (dC, dI) vwCl [(h0, .inr (11, fs)), (q_2, .inr (6, [.null, .null, .null, .null, .null, .null, .null, .null, .null, .int 0, .int 0, .int 0, .int 0, .int 0]))] H := hP
  have hD : va_D A [(h0, .inr (11, fs)), (q_2, .inr (6, [.null, .null, .null, .null, .null, .null, .null, .null, .null, .int 0, .int 0, .int 0, .int 0, .int 0]))] := hD
  refine W.widen (k := 1) (n := 14) (Nat.le_of_ble_eq_true rfl) (Nat.le_of_ble_eq_true rfl) ?_
  refine lv_dup hx hb dX11_keepSparePaper_16 rfl ?_
  refine lv_bipush (v := 12) hx hb dX11_keepSparePaper_17 (by decide) ?_
  have hPc := hP.sub (ws' := [(q_2, .inr (6, [.null, .null, .null, .null, .null, .null, .null, .null, .null, .int 0, .int 0, .int 0, .int 0, .int 0]))]) [1] rfl
  have hDc := hD.sub (ws' := [(q_2, .inr (6, [.null, .null, .null, .null, .null, .null, .null, .null, .null, .int 0, .int 0, .int 0, .int 0, .int 0]))]) [1] (by decide) rfl
  have hKc := hK.sub (tys' := []) [] rfl
  have hFc := va_free (wc := [(q_2, .inr (6, [.null, .null, .null, .null, .null, .null, .null, .null, .null, .int 0, .int 0, .int 0, .int 0, .int 0]))]) hD hS hA [1] rfl
  refine va_callv (va_runI (As := [.int 12]) (rest := [.ref q_2, .ref h0]) ⟨hx, hb, hml, hown, hts⟩ (c_X6_init l dC dI H.size q_2) (cwI 1 hts g_c_X11_keep_c_X6_init_1 rfl rfl rfl (hts (.initialized RX6) (by decide +kernel)) (hts (.methodLink RX11 53 yX6_init) (by decide +kernel)) (hts (.instanceMethod yX6_init) (by decide +kernel)) rfl (by decide +kernel) ⟨Nat.le_of_ble_eq_true rfl, Nat.le_of_ble_eq_true rfl⟩) ⟨fun a U g mk q => by obtain ⟨q0, q1, qP, qK, qD⟩ := q; exact ⟨q0, q1, qP, va_K.moved (u := U) (U := U.calling g mk a) (Vm.Alike.refl U.vm) qK, qD⟩, fun U hU hW => ⟨rfl, by rw [hU], by rw [hU]; exact hPc, va_K.moved hW.alike hKc, hDc.weaken (fun _ _ _ _ => trivial)⟩⟩ rfl rfl hl.1 rfl (lv_room (Nat.le_of_ble_eq_true rfl)) dX11_keepSparePaper_19 ⟨Nat.le_of_ble_eq_true rfl, Nat.le_of_ble_eq_true rfl⟩) hS (fun q _ h => hFc q h) hFc (fun u t H1 locs ht hvm hw hB hz1 hk1 hS => ?_)
  obtain ⟨q_1_3, q_2_3, q_3_3, q_4_3, q_5_3, q_6_3, q_7_3, q_8_3, q_9_3, hP1, hD1⟩ := hB
  rw [ht] at hP1
  obtain ⟨hP, hD⟩ := va_join (wr := [(h0, .inr (11, fs))]) (w1 := [(q_2, .inr (6, [.ref q_1_3, .ref q_2_3, .ref q_3_3, .ref q_4_3, .ref q_5_3, .ref q_6_3, .ref q_7_3, .ref q_8_3, .ref q_9_3, .int 0, .int 0, .int 0, .int 0, .int 0]))]) hP hD [1] [0] rfl rfl (by decide) (by decide) hk1 hFc hP1 hD1
  generalize H1 = H at hP hS ⊢
  have hP : va_P (dC, dI) vwCl [(h0, .inr (11, fs)), (q_2, .inr (6, [.ref q_1_3, .ref q_2_3, .ref q_3_3, .ref q_4_3, .ref q_5_3, .ref q_6_3, .ref q_7_3, .ref q_8_3, .ref q_9_3, .int 0, .int 0, .int 0, .int 0, .int 0]))] H := hP
  have hD : va_D A [(h0, .inr (11, fs)), (q_2, .inr (6, [.ref q_1_3, .ref q_2_3, .ref q_3_3, .ref q_4_3, .ref q_5_3, .ref q_6_3, .ref q_7_3, .ref q_8_3, .ref q_9_3, .int 0, .int 0, .int 0, .int 0, .int 0]))] := hD
  refine W.widen (k := 10) (n := 194) (Nat.le_of_ble_eq_true rfl) (Nat.le_of_ble_eq_true rfl) ?_
  refine va_put (D := (dC, dI)) (ci := 11) (v := .ref q_2) (ty := (.object "CakePapers$Paper")) (C := RX11) (T := TX11) (N := 16) hx hb hts hiX11 tyX11 tyX11_ok nmX11 hown hK hP hD hS 0 rfl rfl 7 (by decide) (hts (.fieldLink RX11 56 "CakePapers" "sparePaper" "LCakePapers$Paper;") (by decide +kernel)) (fun _ h9 => h9) rfl (by decide +kernel) rfl rfl (by simp [hn_fs]) dX11_keepSparePaper_22 (fun H locs hP hD hS => ?_)
  have hP : va_P (dC, dI) vwCl [(h0, .inr (11, (List.set fs 7 (.ref q_2)))), (q_2, .inr (6, [.ref q_1_3, .ref q_2_3, .ref q_3_3, .ref q_4_3, .ref q_5_3, .ref q_6_3, .ref q_7_3, .ref q_8_3, .ref q_9_3, .int 0, .int 0, .int 0, .int 0, .int 0]))] H := hP
  have hD : va_D A [(h0, .inr (11, (List.set fs 7 (.ref q_2)))), (q_2, .inr (6, [.ref q_1_3, .ref q_2_3, .ref q_3_3, .ref q_4_3, .ref q_5_3, .ref q_6_3, .ref q_7_3, .ref q_8_3, .ref q_9_3, .int 0, .int 0, .int 0, .int 0, .int 0]))] := hD
  refine lv_iload_n hx hb dX11_keepSparePaper_25 rfl (lv_at hl 0 rfl) ?_
  refine W.widen (k := 10) (n := 194) (Nat.le_of_ble_eq_true rfl) (Nat.le_of_ble_eq_true rfl) ?_
  exact W.iret (v := 0) hx hb hr (fun t ht hW => ⟨⟨0, (), rfl, rfl, trivial⟩, hS.F ht⟩) hS.2.2 dX11_keepSparePaper_26
def u_c_X11_paper : List Cond := .code yX11_paper cX11_paper 1 (some .int) :: ([.fieldLink RX11 39 "CakePapers" "desk" "LCakePapers$Desk;", .code yX1_isFull cX1_isFull 1 (some .boolean), .fieldLink RX1 24 "CakePapers$Desk" "count" "I", .methodLink RX11 113 yX1_isFull, .instanceMethod yX1_isFull, .selects RX1 yX1_isFull yX1_isFull, .initialized RX1, .fieldLink RX11 16 "CakePapers" "scanner" "LCakePapers$Scanner;", .fieldLink RX11 9 "CakePapers" "tape" "[I", .fieldLink RX11 107 "CakePapers" "taped" "I", .code yX8_start cX8_start 3 none, .fieldLink RX8 15 "CakePapers$Scanner" "bytes" "[I", .methodLink RX8 35 Lib.Math.min.name, .static Lib.Math.min.name, .initialized "java/lang/Math", .code Lib.Math.min.name Lib.Math.min.code 2 (some .int), .fieldLink RX8 41 "CakePapers$Scanner" "length" "I", .fieldLink RX8 43 "CakePapers$Scanner" "at" "I", .fieldLink RX8 46 "CakePapers$Scanner" "fault" "I", .fieldLink RX8 19 "CakePapers$Scanner" "faultPlace" "I", .code yX8_next cX8_next 1 none, .fieldLink RX8 52 "CakePapers$Scanner" "place" "I", .fieldLink RX8 55 "CakePapers$Scanner" "kind" "I", .methodLink RX8 49 yX8_next, .instanceMethod yX8_next, .selects RX8 yX8_next yX8_next, .initialized RX8, .methodLink RX11 117 yX8_start, .instanceMethod yX8_start, .selects RX8 yX8_start yX8_start, .fieldLink RX11 25 "CakePapers" "paperReader" "LCakePapers$PaperReader;", .fieldLink RX11 56 "CakePapers" "sparePaper" "LCakePapers$Paper;", .code yX7_read cX7_read 3 (some .boolean), .fieldLink RX7 22 "CakePapers$PaperReader" "calls" "I", .fieldLink RX7 26 "CakePapers$Paper" "steps" "I", .fieldLink RX7 9 "CakePapers$PaperReader" "scanner" "LCakePapers$Scanner;", .fieldLink RX7 31 "CakePapers$Scanner" "kind" "I", .code yX6_workOut cX6_workOut 2 none, .fieldLink RX6 65 "CakePapers$Paper" "ends" "I", .fieldLink RX6 68 "CakePapers$Paper" "path" "I", .fieldLink RX6 71 "CakePapers$Paper" "allMuch" "I", .fieldLink RX6 74 "CakePapers$Paper" "allLong" "I", .fieldLink RX6 47 "CakePapers$Paper" "steps" "I", .methodLink RX7 47 yX6_workOut, .instanceMethod yX6_workOut, .selects RX6 yX6_workOut yX6_workOut, .initialized RX6, .methodLink RX11 121 yX7_read, .instanceMethod yX7_read, .selects RX7 yX7_read yX7_read, .initialized RX7, .code yX11_keepSparePaper cX11_keepSparePaper 2 (some .int), .code yX1_add cX1_add 2 (some .int), .methodLink RX1 28 yX1_isFull, .fieldLink RX1 13 "CakePapers$Desk" "papers" "[LCakePapers$Paper;", .methodLink RX11 129 yX1_add, .instanceMethod yX1_add, .selects RX1 yX1_add yX1_add, .classLink RX11 51 RX6, .instantiable RX6 14, .code yX6_init cX6_init 3 none, .methodLink RX6 3 objectInit, .instanceMethod objectInit, .code objectInit ⟨#[0xb1]⟩ 1 none, .methodLink RX6 9 Lib.Math.max.name, .static Lib.Math.max.name, .code Lib.Math.max.name Lib.Math.max.code 2 (some .int), .arrayClass .long, .fieldLink RX6 15 "CakePapers$Paper" "makes" "[J", .fieldLink RX6 21 "CakePapers$Paper" "verbs" "[J", .arrayClass .int, .fieldLink RX6 24 "CakePapers$Paper" "much" "[I", .fieldLink RX6 28 "CakePapers$Paper" "lasts" "[I", .fieldLink RX6 31 "CakePapers$Paper" "needCount" "[I", .fieldLink RX6 34 "CakePapers$Paper" "needs" "[J", .fieldLink RX6 37 "CakePapers$Paper" "makers" "[I", .arrayClass .boolean, .fieldLink RX6 40 "CakePapers$Paper" "isEnd" "[Z", .fieldLink RX6 44 "CakePapers$Paper" "reach" "[I", .methodLink RX11 53 yX6_init, .instanceMethod yX6_init, .methodLink RX11 125 yX11_keepSparePaper, .instanceMethod yX11_keepSparePaper, .selects RX11 yX11_keepSparePaper yX11_keepSparePaper, .initialized RX11] ++ wsX110 ++ wsX10 ++ wsX60 ++ wsX80 ++ wsX70)
theorem iX11_c_X11_paper : ∀ w ∈ wsX110, w ∈ u_c_X11_paper := fun w h => List.mem_cons_of_mem _ (List.mem_append_left _ (List.mem_append_left _ (List.mem_append_left _ (List.mem_append_left _ (List.mem_append_right _ h)))))
theorem iX1_c_X11_paper : ∀ w ∈ wsX10, w ∈ u_c_X11_paper := fun w h => List.mem_cons_of_mem _ (List.mem_append_left _ (List.mem_append_left _ (List.mem_append_left _ (List.mem_append_right _ h))))
theorem iX6_c_X11_paper : ∀ w ∈ wsX60, w ∈ u_c_X11_paper := fun w h => List.mem_cons_of_mem _ (List.mem_append_left _ (List.mem_append_left _ (List.mem_append_right _ h)))
theorem iX8_c_X11_paper : ∀ w ∈ wsX80, w ∈ u_c_X11_paper := fun w h => List.mem_cons_of_mem _ (List.mem_append_left _ (List.mem_append_right _ h))
theorem iX7_c_X11_paper : ∀ w ∈ wsX70, w ∈ u_c_X11_paper := fun w h => List.mem_cons_of_mem _ (List.mem_append_right _ h)
set_option maxRecDepth 20000 in
theorem g_c_X11_paper_c_X1_isFull_0 : GoodIn u_c_X11_paper (wsV RX11 113 RX1 yX1_isFull u_c_X1_isFull) := goodIn_app (goodIn_of _ (by decide +kernel)) (goodIn_ca (goodIn_of (.code yX1_isFull cX1_isFull 1 (some .boolean) :: [.fieldLink RX1 24 "CakePapers$Desk" "count" "I"]) (by decide +kernel)) (goodIn_sub iX1_c_X11_paper zgX1))
set_option maxRecDepth 20000 in
theorem g_c_X11_paper_c_X8_start_1 : GoodIn u_c_X11_paper (wsV RX11 117 RX8 yX8_start u_c_X8_start) := goodIn_app (goodIn_of _ (by decide +kernel)) (goodIn_ca (goodIn_of (.code yX8_start cX8_start 3 none :: [.fieldLink RX8 15 "CakePapers$Scanner" "bytes" "[I", .methodLink RX8 35 Lib.Math.min.name, .static Lib.Math.min.name, .initialized "java/lang/Math", .code Lib.Math.min.name Lib.Math.min.code 2 (some .int), .fieldLink RX8 41 "CakePapers$Scanner" "length" "I", .fieldLink RX8 43 "CakePapers$Scanner" "at" "I", .fieldLink RX8 46 "CakePapers$Scanner" "fault" "I", .fieldLink RX8 19 "CakePapers$Scanner" "faultPlace" "I", .code yX8_next cX8_next 1 none, .fieldLink RX8 52 "CakePapers$Scanner" "place" "I", .fieldLink RX8 55 "CakePapers$Scanner" "kind" "I", .methodLink RX8 49 yX8_next, .instanceMethod yX8_next, .selects RX8 yX8_next yX8_next, .initialized RX8]) (by decide +kernel)) (goodIn_sub iX8_c_X11_paper zgX8))
set_option maxRecDepth 20000 in
theorem g_c_X11_paper_c_X7_read_2 : GoodIn u_c_X11_paper (wsV RX11 121 RX7 yX7_read u_c_X7_read) := goodIn_app (goodIn_of _ (by decide +kernel)) (goodIn_ca (goodIn_ca (goodIn_ca (goodIn_of (.code yX7_read cX7_read 3 (some .boolean) :: [.fieldLink RX7 22 "CakePapers$PaperReader" "calls" "I", .fieldLink RX7 26 "CakePapers$Paper" "steps" "I", .fieldLink RX7 9 "CakePapers$PaperReader" "scanner" "LCakePapers$Scanner;", .fieldLink RX7 31 "CakePapers$Scanner" "kind" "I", .code yX6_workOut cX6_workOut 2 none, .fieldLink RX6 65 "CakePapers$Paper" "ends" "I", .fieldLink RX6 68 "CakePapers$Paper" "path" "I", .fieldLink RX6 71 "CakePapers$Paper" "allMuch" "I", .fieldLink RX6 74 "CakePapers$Paper" "allLong" "I", .fieldLink RX6 47 "CakePapers$Paper" "steps" "I", .methodLink RX7 47 yX6_workOut, .instanceMethod yX6_workOut, .selects RX6 yX6_workOut yX6_workOut, .initialized RX6]) (by decide +kernel)) (goodIn_sub iX7_c_X11_paper zgX7)) (goodIn_sub iX6_c_X11_paper zgX6)) (goodIn_sub iX8_c_X11_paper zgX8))
set_option maxRecDepth 20000 in
theorem g_c_X11_paper_c_X11_keep_3 : GoodIn u_c_X11_paper (wsV RX11 125 RX11 yX11_keepSparePaper u_c_X11_keep) := goodIn_app (goodIn_of _ (by decide +kernel)) (goodIn_ca (goodIn_ca (goodIn_ca (goodIn_of (.code yX11_keepSparePaper cX11_keepSparePaper 2 (some .int) :: [.fieldLink RX11 39 "CakePapers" "desk" "LCakePapers$Desk;", .fieldLink RX11 56 "CakePapers" "sparePaper" "LCakePapers$Paper;", .code yX1_add cX1_add 2 (some .int), .code yX1_isFull cX1_isFull 1 (some .boolean), .fieldLink RX1 24 "CakePapers$Desk" "count" "I", .methodLink RX1 28 yX1_isFull, .instanceMethod yX1_isFull, .selects RX1 yX1_isFull yX1_isFull, .initialized RX1, .fieldLink RX1 13 "CakePapers$Desk" "papers" "[LCakePapers$Paper;", .methodLink RX11 129 yX1_add, .instanceMethod yX1_add, .selects RX1 yX1_add yX1_add, .classLink RX11 51 RX6, .instantiable RX6 14, .initialized RX6, .code yX6_init cX6_init 3 none, .methodLink RX6 3 objectInit, .instanceMethod objectInit, .code objectInit ⟨#[0xb1]⟩ 1 none, .methodLink RX6 9 Lib.Math.max.name, .static Lib.Math.max.name, .initialized "java/lang/Math", .code Lib.Math.max.name Lib.Math.max.code 2 (some .int), .arrayClass .long, .fieldLink RX6 15 "CakePapers$Paper" "makes" "[J", .fieldLink RX6 21 "CakePapers$Paper" "verbs" "[J", .arrayClass .int, .fieldLink RX6 24 "CakePapers$Paper" "much" "[I", .fieldLink RX6 28 "CakePapers$Paper" "lasts" "[I", .fieldLink RX6 31 "CakePapers$Paper" "needCount" "[I", .fieldLink RX6 34 "CakePapers$Paper" "needs" "[J", .fieldLink RX6 37 "CakePapers$Paper" "makers" "[I", .arrayClass .boolean, .fieldLink RX6 40 "CakePapers$Paper" "isEnd" "[Z", .fieldLink RX6 44 "CakePapers$Paper" "reach" "[I", .methodLink RX11 53 yX6_init, .instanceMethod yX6_init]) (by decide +kernel)) (goodIn_sub iX11_c_X11_paper zgX11)) (goodIn_sub iX1_c_X11_paper zgX1)) (goodIn_sub iX6_c_X11_paper zgX6))
set_option maxHeartbeats 1000000 in
set_option maxRecDepth 100000 in
theorem c_X11_paper (l : Launch) (dC : Nat → ClassId) (dI : Nat → Nat → Nat) (sz : Nat) (h0 h4 h5 h6 h1 h2 h3 : Nat) (cP cI : ClassId) (f : Nat → Option Nat) (g : Nat → Int32) (fs : List Value) (hn_fs : fs.length = 16) (e_fs_0 : fs[0]? = some (.ref h4)) (e_fs_1 : fs[1]? = some (.int 0)) (e_fs_2 : fs[2]? = some (.ref h5)) (e_fs_3 : fs[3]? = some (.ref h6)) (e_fs_5 : fs[5]? = some (.ref h1)) (e_fs_7 : fs[7]? = some (.ref h2)) (gs : List Value) (hn_gs : gs.length = 3) (e_gs_0 : gs[0]? = some (.ref h3)) (e_gs_2 : gs[2]? = some (.int 0)) (ps : List Value) (hn_ps : ps.length = 14) (ss : List Value) (hn_ss : ss.length = 10) (rs : List Value) (hn_rs : rs.length = 4) (e_rs_0 : rs[0]? = some (.ref h5)) : Met l yX11_paper u_c_X11_paper ({ frames := 3, cells := 10, slots := 194, locals := 64 }) (va_Pc [.ref h0] (fun U => U.heap.size = sz ∧ va_P (dC, dI) vwCl [(h0, .inr (11, fs)), (h1, .inr (1, gs)), (h2, .inr (6, ps)), (h3, .inl (cP, 8, .inr (.inr (.inr (.inr f))))), (h4, .inl (cI, 1200, .inl g)), (h5, .inr (8, ss)), (h6, .inr (7, rs))] U.heap ∧ va_K (dC, dI) vwCl [(cP, (.object RX6)), (cI, .int)] U ∧ va_D (fun _ => True) [(h0, .inr (11, fs)), (h1, .inr (1, gs)), (h2, .inr (6, ps)), (h3, .inl (cP, 8, .inr (.inr (.inr (.inr f))))), (h4, .inl (cI, 1200, .inl g)), (h5, .inr (8, ss)), (h6, .inr (7, rs))])) (va_Qi (fun (r : Int32) (_ : Unit) => r = 0) (fun _ _ => True) (va_A [(h0, .inr (11, fs)), (h1, .inr (1, gs)), (h2, .inr (6, ps)), (h3, .inl (cP, 8, .inr (.inr (.inr (.inr f))))), (h4, .inl (cI, 1200, .inl g)), (h5, .inr (8, ss)), (h6, .inr (7, rs))] sz)) 10 194 (va_A [(h0, .inr (11, fs)), (h1, .inr (1, gs)), (h2, .inr (6, ps)), (h3, .inl (cP, 8, .inr (.inr (.inr (.inr f))))), (h4, .inl (cI, 1200, .inl g)), (h5, .inr (8, ss)), (h6, .inr (7, rs))] sz) := by
  refine Met.ofW (cc := cX11_paper) (maxL := 1) (ret := (some .int)) (by decide) rfl ?_
  intro p e s m args below meth c s₁ B hml hv
  obtain ⟨rfl, hsz, hP, hK, hD0⟩ := hv
  have hx := B.exec
  have hb := B.bytes
  have hr := B.returns
  have hts := atoms_spec (ws := u_c_X11_paper) B.pre
  have hown : s.vm.findClass RX11 = some m.cls := findClass_of_methodNamed B.named
  have hlocks := B.notSynchronized
  have hiX11 := iX11_c_X11_paper
  have hiX1 := iX1_c_X11_paper
  have hiX6 := iX6_c_X11_paper
  have hiX8 := iX8_c_X11_paper
  have hiX7 := iX7_c_X11_paper
  subst hsz
  have hD := hD0.self (sz := s.heap.size)
  generalize hAe : va_A [(h0, .inr (11, fs)), (h1, .inr (1, gs)), (h2, .inr (6, ps)), (h3, .inl (cP, 8, .inr (.inr (.inr (.inr f))))), (h4, .inl (cI, 1200, .inl g)), (h5, .inr (8, ss)), (h6, .inr (7, rs))] s.heap.size = A at hD ⊢
  have hA : ∀ q : Nat, s.heap.size ≤ q → A q := fun q h => by rw [← hAe]; exact Or.inr h
  have hS : va_S A s.heap s.heap [] := va_S.rf
  obtain ⟨H, hH⟩ : ∃ H : Heap, H = s.heap := ⟨_, rfl⟩
  have hP : va_P (dC, dI) vwCl [(h0, .inr (11, fs)), (h1, .inr (1, gs)), (h2, .inr (6, ps)), (h3, .inl (cP, 8, .inr (.inr (.inr (.inr f))))), (h4, .inl (cI, 1200, .inl g)), (h5, .inr (8, ss)), (h6, .inr (7, rs))] H := by rw [hH]; exact hP
  have hS : va_S A s.heap H [] := by rw [hH]; exact hS
  have hl := lv_entry ([.ref h0]) (n := 1) (Nat.le_of_ble_eq_true rfl)
  rw [lg_entry_eq]
  generalize (lg_sl ([.ref h0]) ++ List.replicate (1 - (lg_sl ([.ref h0])).length) Slot.unset).toArray = ls at hl ⊢
  have hl : lv_has ls 1 [(0, .ref h0)] := hl
  suffices h9 : W p l e (headSpec u_c_X11_paper _).room s m _ below meth c H [] 0 0 _ (F0 m 0 ls []) by rw [hH] at h9; exact h9
  refine lv_aload_n hx hb dX11_paper_0 rfl (lv_at hl 0 rfl) ?_
  refine va_get (D := (dC, dI)) (ci := 11) (v := .ref h1) (C := RX11) (T := TX11) (N := 16) hx hb hts hiX11 hown hK hP 0 rfl rfl 5 (by decide) (hts (.fieldLink RX11 39 "CakePapers" "desk" "LCakePapers$Desk;") (by decide +kernel)) (fun _ h9 => h9) e_fs_5 dX11_paper_1 ?_
  have hPc := hP.sub (ws' := [(h1, .inr (1, gs))]) [1] rfl
  have hDc := hD.sub (ws' := [(h1, .inr (1, gs))]) [1] (by decide) rfl
  have hKc := hK.sub (tys' := []) [] rfl
  have hFc := va_free (wc := [(h1, .inr (1, gs))]) hD hS hA [1] rfl
  refine va_calli (va_runV (As := []) (rest := []) ⟨hx, hb, hml, hown, hts⟩ (c_X1_isFull l dC dI H.size h1 gs hn_gs e_gs_2) (cwV 0 hts g_c_X11_paper_c_X1_isFull_0 rfl rfl rfl (by decide +kernel) ⟨Nat.le_of_ble_eq_true rfl, Nat.le_of_ble_eq_true rfl⟩) ⟨fun a U g mk q => by obtain ⟨q0, q1, qP, qK, qD⟩ := q; exact ⟨q0, q1, qP, va_K.moved (u := U) (U := U.calling g mk a) (Vm.Alike.refl U.vm) qK, qD⟩, va_recv hKc hPc (ci := 1) (q0 := 0) rfl rfl, fun U hU hW => ⟨rfl, by rw [hU], by rw [hU]; exact hPc, va_K.moved hW.alike hKc, hDc.weaken (fun _ _ _ _ => trivial)⟩⟩ rfl rfl hl.1 rfl (lv_room (Nat.le_of_ble_eq_true rfl)) dX11_paper_4 ⟨Nat.le_of_ble_eq_true rfl, Nat.le_of_ble_eq_true rfl⟩) hS (fun q _ h => hFc q h) hFc (fun r_1 u t H1 locs ht hvm hw hB hz1 hk1 hS => ?_)
  obtain ⟨hP1, hD1⟩ := hB
  rw [ht] at hP1
  obtain ⟨hP, hD⟩ := va_join (wr := [(h0, .inr (11, fs)), (h2, .inr (6, ps)), (h3, .inl (cP, 8, .inr (.inr (.inr (.inr f))))), (h4, .inl (cI, 1200, .inl g)), (h5, .inr (8, ss)), (h6, .inr (7, rs))]) (w1 := [(h1, .inr (1, gs))]) hP hD [1] [0, 2, 3, 4, 5, 6] rfl rfl (by decide) (by decide) hk1 hFc hP1 hD1
  generalize H1 = H at hP hS ⊢
  have hP : va_P (dC, dI) vwCl [(h0, .inr (11, fs)), (h2, .inr (6, ps)), (h3, .inl (cP, 8, .inr (.inr (.inr (.inr f))))), (h4, .inl (cI, 1200, .inl g)), (h5, .inr (8, ss)), (h6, .inr (7, rs)), (h1, .inr (1, gs))] H := hP
  have hD : va_D A [(h0, .inr (11, fs)), (h2, .inr (6, ps)), (h3, .inl (cP, 8, .inr (.inr (.inr (.inr f))))), (h4, .inl (cI, 1200, .inl g)), (h5, .inr (8, ss)), (h6, .inr (7, rs)), (h1, .inr (1, gs))] := hD
  refine W.widen (k := 0) (n := 0) (Nat.le_of_ble_eq_true rfl) (Nat.le_of_ble_eq_true rfl) ?_
  refine zz_ci (y := 0) hw ?_
  refine lv_if_eq (tgt := 18) hx hb dX11_paper_7 (by decide) (fun c_2 => ?_) (fun c_2 => absurd c_2 (by decide))
  refine lv_aload_n hx hb dX11_paper_18 rfl (lv_at hl 0 rfl) ?_
  refine va_get (D := (dC, dI)) (ci := 11) (v := .ref h5) (C := RX11) (T := TX11) (N := 16) hx hb hts hiX11 hown hK hP 0 rfl rfl 2 (by decide) (hts (.fieldLink RX11 16 "CakePapers" "scanner" "LCakePapers$Scanner;") (by decide +kernel)) (fun _ h9 => h9) e_fs_2 dX11_paper_19 ?_
  refine lv_aload_n hx hb dX11_paper_22 rfl (lv_at hl 0 rfl) ?_
  refine va_get (D := (dC, dI)) (ci := 11) (v := .ref h4) (C := RX11) (T := TX11) (N := 16) hx hb hts hiX11 hown hK hP 0 rfl rfl 0 (by decide) (hts (.fieldLink RX11 9 "CakePapers" "tape" "[I") (by decide +kernel)) (fun _ h9 => h9) e_fs_0 dX11_paper_23 ?_
  refine lv_aload_n hx hb dX11_paper_26 rfl (lv_at hl 0 rfl) ?_
  refine va_get (D := (dC, dI)) (ci := 11) (v := .int 0) (C := RX11) (T := TX11) (N := 16) hx hb hts hiX11 hown hK hP 0 rfl rfl 1 (by decide) (hts (.fieldLink RX11 107 "CakePapers" "taped" "I") (by decide +kernel)) (fun _ h9 => h9) e_fs_1 dX11_paper_27 ?_
  have hPc := hP.sub (ws' := [(h5, .inr (8, ss)), (h4, .inl (cI, 1200, .inl g))]) [4, 3] rfl
  have hDc := hD.sub (ws' := [(h5, .inr (8, ss)), (h4, .inl (cI, 1200, .inl g))]) [4, 3] (by decide) rfl
  have hKc := hK.sub (tys' := [(cI, .int)]) [1] rfl
  have hFc := va_free (wc := [(h5, .inr (8, ss)), (h4, .inl (cI, 1200, .inl g))]) hD hS hA [4, 3] rfl
  refine va_callv (va_runV (As := [.ref h4, .int 0]) (rest := []) ⟨hx, hb, hml, hown, hts⟩ (c_X8_start l dC dI H.size h5 h4 cI g ss hn_ss) (cwV 2 hts g_c_X11_paper_c_X8_start_1 rfl rfl rfl (by decide +kernel) ⟨Nat.le_of_ble_eq_true rfl, Nat.le_of_ble_eq_true rfl⟩) ⟨fun a U g mk q => by obtain ⟨q0, q1, qP, qK, qD⟩ := q; exact ⟨q0, q1, qP, va_K.moved (u := U) (U := U.calling g mk a) (Vm.Alike.refl U.vm) qK, qD⟩, va_recv hKc hPc (ci := 8) (q0 := 0) rfl rfl, fun U hU hW => ⟨rfl, by rw [hU], by rw [hU]; exact hPc, va_K.moved hW.alike hKc, hDc.weaken (fun _ _ _ _ => trivial)⟩⟩ rfl rfl hl.1 rfl (lv_room (Nat.le_of_ble_eq_true rfl)) dX11_paper_30 ⟨Nat.le_of_ble_eq_true rfl, Nat.le_of_ble_eq_true rfl⟩) hS (fun q _ h => hFc q h) hFc (fun u t H1 locs ht hvm hw hB hz1 hk1 hS => ?_)
  obtain ⟨hP1, hD1⟩ := hB
  rw [ht] at hP1
  obtain ⟨hP, hD⟩ := va_join (wr := [(h0, .inr (11, fs)), (h2, .inr (6, ps)), (h3, .inl (cP, 8, .inr (.inr (.inr (.inr f))))), (h6, .inr (7, rs)), (h1, .inr (1, gs))]) (w1 := [(h5, .inr (8, (List.set (List.set (List.set (List.set (List.set (List.set (List.set ss 1 (.ref h4)) 2 (.int 0)) 3 (.int 0)) 8 (.int 0)) 9 (.int (-1))) 5 (.int 0)) 4 (.int 1)))), (h4, .inl (cI, 1200, .inl g))]) hP hD [4, 3] [0, 1, 2, 5, 6] rfl rfl (by decide) (by decide) hk1 hFc hP1 hD1
  generalize H1 = H at hP hS ⊢
  have hP : va_P (dC, dI) vwCl [(h0, .inr (11, fs)), (h2, .inr (6, ps)), (h3, .inl (cP, 8, .inr (.inr (.inr (.inr f))))), (h6, .inr (7, rs)), (h1, .inr (1, gs)), (h5, .inr (8, (List.set (List.set (List.set (List.set (List.set (List.set (List.set ss 1 (.ref h4)) 2 (.int 0)) 3 (.int 0)) 8 (.int 0)) 9 (.int (-1))) 5 (.int 0)) 4 (.int 1)))), (h4, .inl (cI, 1200, .inl g))] H := hP
  have hD : va_D A [(h0, .inr (11, fs)), (h2, .inr (6, ps)), (h3, .inl (cP, 8, .inr (.inr (.inr (.inr f))))), (h6, .inr (7, rs)), (h1, .inr (1, gs)), (h5, .inr (8, (List.set (List.set (List.set (List.set (List.set (List.set (List.set ss 1 (.ref h4)) 2 (.int 0)) 3 (.int 0)) 8 (.int 0)) 9 (.int (-1))) 5 (.int 0)) 4 (.int 1)))), (h4, .inl (cI, 1200, .inl g))] := hD
  refine W.widen (k := 0) (n := 0) (Nat.le_of_ble_eq_true rfl) (Nat.le_of_ble_eq_true rfl) ?_
  refine lv_aload_n hx hb dX11_paper_33 rfl (lv_at hl 0 rfl) ?_
  refine va_get (D := (dC, dI)) (ci := 11) (v := .ref h6) (C := RX11) (T := TX11) (N := 16) hx hb hts hiX11 hown hK hP 0 rfl rfl 3 (by decide) (hts (.fieldLink RX11 25 "CakePapers" "paperReader" "LCakePapers$PaperReader;") (by decide +kernel)) (fun _ h9 => h9) e_fs_3 dX11_paper_34 ?_
  refine lv_aload_n hx hb dX11_paper_37 rfl (lv_at hl 0 rfl) ?_
  refine va_get (D := (dC, dI)) (ci := 11) (v := .ref h2) (C := RX11) (T := TX11) (N := 16) hx hb hts hiX11 hown hK hP 0 rfl rfl 7 (by decide) (hts (.fieldLink RX11 56 "CakePapers" "sparePaper" "LCakePapers$Paper;") (by decide +kernel)) (fun _ h9 => h9) e_fs_7 dX11_paper_38 ?_
  have hPc := hP.sub (ws' := [(h6, .inr (7, rs)), (h2, .inr (6, ps)), (h5, .inr (8, (List.set (List.set (List.set (List.set (List.set (List.set (List.set ss 1 (.ref h4)) 2 (.int 0)) 3 (.int 0)) 8 (.int 0)) 9 (.int (-1))) 5 (.int 0)) 4 (.int 1))))]) [3, 1, 5] rfl
  have hDc := hD.sub (ws' := [(h6, .inr (7, rs)), (h2, .inr (6, ps)), (h5, .inr (8, (List.set (List.set (List.set (List.set (List.set (List.set (List.set ss 1 (.ref h4)) 2 (.int 0)) 3 (.int 0)) 8 (.int 0)) 9 (.int (-1))) 5 (.int 0)) 4 (.int 1))))]) [3, 1, 5] (by decide) rfl
  have hKc := hK.sub (tys' := []) [] rfl
  have hFc := va_free (wc := [(h6, .inr (7, rs)), (h2, .inr (6, ps)), (h5, .inr (8, (List.set (List.set (List.set (List.set (List.set (List.set (List.set ss 1 (.ref h4)) 2 (.int 0)) 3 (.int 0)) 8 (.int 0)) 9 (.int (-1))) 5 (.int 0)) 4 (.int 1))))]) hD hS hA [3, 1, 5] rfl
  refine va_calli (va_runV (As := [.ref h2]) (rest := []) ⟨hx, hb, hml, hown, hts⟩ (c_X7_read l dC dI H.size h6 h2 h5 rs hn_rs e_rs_0 ps hn_ps (List.set (List.set (List.set (List.set (List.set (List.set (List.set ss 1 (.ref h4)) 2 (.int 0)) 3 (.int 0)) 8 (.int 0)) 9 (.int (-1))) 5 (.int 0)) 4 (.int 1)) (by simp [hn_ss]) (by simp [hn_ss])) (cwV 1 hts g_c_X11_paper_c_X7_read_2 rfl rfl rfl (by decide +kernel) ⟨Nat.le_of_ble_eq_true rfl, Nat.le_of_ble_eq_true rfl⟩) ⟨fun a U g mk q => by obtain ⟨q0, q1, qP, qK, qD⟩ := q; exact ⟨q0, q1, qP, va_K.moved (u := U) (U := U.calling g mk a) (Vm.Alike.refl U.vm) qK, qD⟩, va_recv hKc hPc (ci := 7) (q0 := 0) rfl rfl, fun U hU hW => ⟨rfl, by rw [hU], by rw [hU]; exact hPc, va_K.moved hW.alike hKc, hDc.weaken (fun _ _ _ _ => trivial)⟩⟩ rfl rfl hl.1 rfl (lv_room (Nat.le_of_ble_eq_true rfl)) dX11_paper_41 ⟨Nat.le_of_ble_eq_true rfl, Nat.le_of_ble_eq_true rfl⟩) hS (fun q _ h => hFc q h) hFc (fun r_4 u t H1 locs ht hvm hw hB hz1 hk1 hS => ?_)
  obtain ⟨hP1, hD1⟩ := hB
  rw [ht] at hP1
  obtain ⟨hP, hD⟩ := va_join (wr := [(h0, .inr (11, fs)), (h3, .inl (cP, 8, .inr (.inr (.inr (.inr f))))), (h1, .inr (1, gs)), (h4, .inl (cI, 1200, .inl g))]) (w1 := [(h6, .inr (7, (List.set rs 3 (.int 0)))), (h2, .inr (6, (List.set (List.set (List.set (List.set (List.set ps 9 (.int 0)) 10 (.int 0)) 11 (.int 0)) 12 (.int 0)) 13 (.int 0)))), (h5, .inr (8, (List.set (List.set (List.set (List.set (List.set (List.set (List.set ss 1 (.ref h4)) 2 (.int 0)) 3 (.int 0)) 8 (.int 0)) 9 (.int (-1))) 5 (.int 0)) 4 (.int 1))))]) hP hD [3, 1, 5] [0, 2, 4, 6] rfl rfl (by decide) (by decide) hk1 hFc hP1 hD1
  generalize H1 = H at hP hS ⊢
  have hP : va_P (dC, dI) vwCl [(h0, .inr (11, fs)), (h3, .inl (cP, 8, .inr (.inr (.inr (.inr f))))), (h1, .inr (1, gs)), (h4, .inl (cI, 1200, .inl g)), (h6, .inr (7, (List.set rs 3 (.int 0)))), (h2, .inr (6, (List.set (List.set (List.set (List.set (List.set ps 9 (.int 0)) 10 (.int 0)) 11 (.int 0)) 12 (.int 0)) 13 (.int 0)))), (h5, .inr (8, (List.set (List.set (List.set (List.set (List.set (List.set (List.set ss 1 (.ref h4)) 2 (.int 0)) 3 (.int 0)) 8 (.int 0)) 9 (.int (-1))) 5 (.int 0)) 4 (.int 1))))] H := hP
  have hD : va_D A [(h0, .inr (11, fs)), (h3, .inl (cP, 8, .inr (.inr (.inr (.inr f))))), (h1, .inr (1, gs)), (h4, .inl (cI, 1200, .inl g)), (h6, .inr (7, (List.set rs 3 (.int 0)))), (h2, .inr (6, (List.set (List.set (List.set (List.set (List.set ps 9 (.int 0)) 10 (.int 0)) 11 (.int 0)) 12 (.int 0)) 13 (.int 0)))), (h5, .inr (8, (List.set (List.set (List.set (List.set (List.set (List.set (List.set ss 1 (.ref h4)) 2 (.int 0)) 3 (.int 0)) 8 (.int 0)) 9 (.int (-1))) 5 (.int 0)) 4 (.int 1))))] := hD
  refine W.widen (k := 0) (n := 0) (Nat.le_of_ble_eq_true rfl) (Nat.le_of_ble_eq_true rfl) ?_
  refine zz_ci (y := 1) hw ?_
  refine lv_if_ne (tgt := 49) hx hb dX11_paper_44 (by decide) (fun c_5 => ?_) (fun c_5 => absurd c_5 (by decide))
  refine lv_aload_n hx hb dX11_paper_49 rfl (lv_at hl 0 rfl) ?_
  refine lv_iconst (v := 0) hx hb dX11_paper_50 (by decide) ?_
  refine va_put (D := (dC, dI)) (ci := 11) (v := .int 0) (ty := .int) (C := RX11) (T := TX11) (N := 16) hx hb hts hiX11 tyX11 tyX11_ok nmX11 hown hK hP hD hS 0 rfl rfl 1 (by decide) (hts (.fieldLink RX11 107 "CakePapers" "taped" "I") (by decide +kernel)) (fun _ h9 => h9) rfl (by decide +kernel) rfl rfl (by simp [hn_fs]) dX11_paper_51 (fun H locs hP hD hS => ?_)
  have hP : va_P (dC, dI) vwCl [(h0, .inr (11, (List.set fs 1 (.int 0)))), (h3, .inl (cP, 8, .inr (.inr (.inr (.inr f))))), (h1, .inr (1, gs)), (h4, .inl (cI, 1200, .inl g)), (h6, .inr (7, (List.set rs 3 (.int 0)))), (h2, .inr (6, (List.set (List.set (List.set (List.set (List.set ps 9 (.int 0)) 10 (.int 0)) 11 (.int 0)) 12 (.int 0)) 13 (.int 0)))), (h5, .inr (8, (List.set (List.set (List.set (List.set (List.set (List.set (List.set ss 1 (.ref h4)) 2 (.int 0)) 3 (.int 0)) 8 (.int 0)) 9 (.int (-1))) 5 (.int 0)) 4 (.int 1))))] H := hP
  have hD : va_D A [(h0, .inr (11, (List.set fs 1 (.int 0)))), (h3, .inl (cP, 8, .inr (.inr (.inr (.inr f))))), (h1, .inr (1, gs)), (h4, .inl (cI, 1200, .inl g)), (h6, .inr (7, (List.set rs 3 (.int 0)))), (h2, .inr (6, (List.set (List.set (List.set (List.set (List.set ps 9 (.int 0)) 10 (.int 0)) 11 (.int 0)) 12 (.int 0)) 13 (.int 0)))), (h5, .inr (8, (List.set (List.set (List.set (List.set (List.set (List.set (List.set ss 1 (.ref h4)) 2 (.int 0)) 3 (.int 0)) 8 (.int 0)) 9 (.int (-1))) 5 (.int 0)) 4 (.int 1))))] := hD
  refine lv_aload_n hx hb dX11_paper_54 rfl (lv_at hl 0 rfl) ?_
  have hPc := hP.sub (ws' := [(h0, .inr (11, (List.set fs 1 (.int 0)))), (h1, .inr (1, gs)), (h2, .inr (6, (List.set (List.set (List.set (List.set (List.set ps 9 (.int 0)) 10 (.int 0)) 11 (.int 0)) 12 (.int 0)) 13 (.int 0)))), (h3, .inl (cP, 8, .inr (.inr (.inr (.inr f)))))]) [0, 2, 5, 1] rfl
  have hDc := hD.sub (ws' := [(h0, .inr (11, (List.set fs 1 (.int 0)))), (h1, .inr (1, gs)), (h2, .inr (6, (List.set (List.set (List.set (List.set (List.set ps 9 (.int 0)) 10 (.int 0)) 11 (.int 0)) 12 (.int 0)) 13 (.int 0)))), (h3, .inl (cP, 8, .inr (.inr (.inr (.inr f)))))]) [0, 2, 5, 1] (by decide) rfl
  have hKc := hK.sub (tys' := [(cP, (.object RX6))]) [0] rfl
  have hFc := va_free (wc := [(h0, .inr (11, (List.set fs 1 (.int 0)))), (h1, .inr (1, gs)), (h2, .inr (6, (List.set (List.set (List.set (List.set (List.set ps 9 (.int 0)) 10 (.int 0)) 11 (.int 0)) 12 (.int 0)) 13 (.int 0)))), (h3, .inl (cP, 8, .inr (.inr (.inr (.inr f)))))]) hD hS hA [0, 2, 5, 1] rfl
  refine va_calli (va_runV (As := []) (rest := []) ⟨hx, hb, hml, hown, hts⟩ (c_X11_keep l dC dI H.size h0 h1 h2 h3 cP f (List.set fs 1 (.int 0)) (by simp [hn_fs]) (by simp [e_fs_5]) (by simp [e_fs_7]) gs hn_gs e_gs_0 e_gs_2 (List.set (List.set (List.set (List.set (List.set ps 9 (.int 0)) 10 (.int 0)) 11 (.int 0)) 12 (.int 0)) 13 (.int 0)) (by simp [hn_ps])) (cwV 0 hts g_c_X11_paper_c_X11_keep_3 rfl rfl rfl (by decide +kernel) ⟨Nat.le_of_ble_eq_true rfl, Nat.le_of_ble_eq_true rfl⟩) ⟨fun a U g mk q => by obtain ⟨q0, q1, qP, qK, qD⟩ := q; exact ⟨q0, q1, qP, va_K.moved (u := U) (U := U.calling g mk a) (Vm.Alike.refl U.vm) qK, qD⟩, va_recv hKc hPc (ci := 11) (q0 := 0) rfl rfl, fun U hU hW => ⟨rfl, by rw [hU], by rw [hU]; exact hPc, va_K.moved hW.alike hKc, hDc.weaken (fun _ _ _ _ => trivial)⟩⟩ rfl rfl hl.1 rfl (lv_room (Nat.le_of_ble_eq_true rfl)) dX11_paper_55 ⟨Nat.le_of_ble_eq_true rfl, Nat.le_of_ble_eq_true rfl⟩) hS (fun q _ h => hFc q h) hFc (fun r_6 u t H1 locs ht hvm hw hB hz1 hk1 hS => ?_)
  obtain ⟨hP, hD⟩ := va_join (wr := [(h4, .inl (cI, 1200, .inl g)), (h6, .inr (7, (List.set rs 3 (.int 0)))), (h5, .inr (8, (List.set (List.set (List.set (List.set (List.set (List.set (List.set ss 1 (.ref h4)) 2 (.int 0)) 3 (.int 0)) 8 (.int 0)) 9 (.int (-1))) 5 (.int 0)) 4 (.int 1))))]) (w1 := []) hP hD [0, 2, 5, 1] [3, 4, 6] rfl rfl (by decide) (by decide) hk1 hFc zz_P0 zz_D0
  generalize H1 = H at hP hS ⊢
  have hP : va_P (dC, dI) vwCl [(h4, .inl (cI, 1200, .inl g)), (h6, .inr (7, (List.set rs 3 (.int 0)))), (h5, .inr (8, (List.set (List.set (List.set (List.set (List.set (List.set (List.set ss 1 (.ref h4)) 2 (.int 0)) 3 (.int 0)) 8 (.int 0)) 9 (.int (-1))) 5 (.int 0)) 4 (.int 1))))] H := hP
  have hD : va_D A [(h4, .inl (cI, 1200, .inl g)), (h6, .inr (7, (List.set rs 3 (.int 0)))), (h5, .inr (8, (List.set (List.set (List.set (List.set (List.set (List.set (List.set ss 1 (.ref h4)) 2 (.int 0)) 3 (.int 0)) 8 (.int 0)) 9 (.int (-1))) 5 (.int 0)) 4 (.int 1))))] := hD
  refine W.widen (k := 10) (n := 194) (Nat.le_of_ble_eq_true rfl) (Nat.le_of_ble_eq_true rfl) ?_
  refine zz_ci (y := 0) hw ?_
  refine W.widen (k := 10) (n := 194) (Nat.le_of_ble_eq_true rfl) (Nat.le_of_ble_eq_true rfl) ?_
  exact W.iret (v := 0) hx hb hr (fun t ht hW => ⟨⟨0, (), rfl, rfl, trivial⟩, hS.F ht⟩) hS.2.2 dX11_paper_58
def u_c_X11_want : List Cond := .code yX11_want cX11_want 2 (some .int) :: ([.fieldLink RX11 107 "CakePapers" "taped" "I", .fieldLink RX11 16 "CakePapers" "scanner" "LCakePapers$Scanner;", .fieldLink RX11 9 "CakePapers" "tape" "[I", .code yX8_start cX8_start 3 none, .fieldLink RX8 15 "CakePapers$Scanner" "bytes" "[I", .methodLink RX8 35 Lib.Math.min.name, .static Lib.Math.min.name, .initialized "java/lang/Math", .code Lib.Math.min.name Lib.Math.min.code 2 (some .int), .fieldLink RX8 41 "CakePapers$Scanner" "length" "I", .fieldLink RX8 43 "CakePapers$Scanner" "at" "I", .fieldLink RX8 46 "CakePapers$Scanner" "fault" "I", .fieldLink RX8 19 "CakePapers$Scanner" "faultPlace" "I", .code yX8_next cX8_next 1 none, .fieldLink RX8 52 "CakePapers$Scanner" "place" "I", .fieldLink RX8 55 "CakePapers$Scanner" "kind" "I", .methodLink RX8 49 yX8_next, .instanceMethod yX8_next, .selects RX8 yX8_next yX8_next, .initialized RX8, .methodLink RX11 117 yX8_start, .instanceMethod yX8_start, .selects RX8 yX8_start yX8_start, .fieldLink RX11 32 "CakePapers" "wantReader" "LCakePapers$WantReader;", .fieldLink RX11 67 "CakePapers" "spareWant" "LCakePapers$Want;", .code yX10_read cX10_read 2 (some .boolean), .fieldLink RX10 15 "CakePapers$WantReader" "into" "LCakePapers$Want;", .fieldLink RX10 19 "CakePapers$Want" "length" "I", .fieldLink RX10 25 "CakePapers$Want" "units" "I", .fieldLink RX10 9 "CakePapers$WantReader" "scanner" "LCakePapers$Scanner;", .code yX8_pass cX8_pass 2 (some .boolean), .code yX8_refuse cX8_refuse 1 (some .boolean), .code yX8_blame cX8_blame 2 (some .boolean), .methodLink RX8 84 yX8_blame, .instanceMethod yX8_blame, .selects RX8 yX8_blame yX8_blame, .methodLink RX8 87 yX8_refuse, .instanceMethod yX8_refuse, .selects RX8 yX8_refuse yX8_refuse, .methodLink RX10 30 yX8_pass, .instanceMethod yX8_pass, .selects RX8 yX8_pass yX8_pass, .methodLink RX11 133 yX10_read, .instanceMethod yX10_read, .selects RX10 yX10_read yX10_read, .initialized RX10] ++ wsX110 ++ wsX90 ++ wsX80 ++ wsX100)
theorem iX11_c_X11_want : ∀ w ∈ wsX110, w ∈ u_c_X11_want := fun w h => List.mem_cons_of_mem _ (List.mem_append_left _ (List.mem_append_left _ (List.mem_append_left _ (List.mem_append_right _ h))))
theorem iX9_c_X11_want : ∀ w ∈ wsX90, w ∈ u_c_X11_want := fun w h => List.mem_cons_of_mem _ (List.mem_append_left _ (List.mem_append_left _ (List.mem_append_right _ h)))
theorem iX8_c_X11_want : ∀ w ∈ wsX80, w ∈ u_c_X11_want := fun w h => List.mem_cons_of_mem _ (List.mem_append_left _ (List.mem_append_right _ h))
theorem iX10_c_X11_want : ∀ w ∈ wsX100, w ∈ u_c_X11_want := fun w h => List.mem_cons_of_mem _ (List.mem_append_right _ h)
set_option maxRecDepth 20000 in
theorem g_c_X11_want_c_X8_start_0 : GoodIn u_c_X11_want (wsV RX11 117 RX8 yX8_start u_c_X8_start) := goodIn_app (goodIn_of _ (by decide +kernel)) (goodIn_ca (goodIn_of (.code yX8_start cX8_start 3 none :: [.fieldLink RX8 15 "CakePapers$Scanner" "bytes" "[I", .methodLink RX8 35 Lib.Math.min.name, .static Lib.Math.min.name, .initialized "java/lang/Math", .code Lib.Math.min.name Lib.Math.min.code 2 (some .int), .fieldLink RX8 41 "CakePapers$Scanner" "length" "I", .fieldLink RX8 43 "CakePapers$Scanner" "at" "I", .fieldLink RX8 46 "CakePapers$Scanner" "fault" "I", .fieldLink RX8 19 "CakePapers$Scanner" "faultPlace" "I", .code yX8_next cX8_next 1 none, .fieldLink RX8 52 "CakePapers$Scanner" "place" "I", .fieldLink RX8 55 "CakePapers$Scanner" "kind" "I", .methodLink RX8 49 yX8_next, .instanceMethod yX8_next, .selects RX8 yX8_next yX8_next, .initialized RX8]) (by decide +kernel)) (goodIn_sub iX8_c_X11_want zgX8))
set_option maxRecDepth 20000 in
theorem g_c_X11_want_c_X10_read_1 : GoodIn u_c_X11_want (wsV RX11 133 RX10 yX10_read u_c_X10_read) := goodIn_app (goodIn_of _ (by decide +kernel)) (goodIn_ca (goodIn_ca (goodIn_ca (goodIn_of (.code yX10_read cX10_read 2 (some .boolean) :: [.fieldLink RX10 15 "CakePapers$WantReader" "into" "LCakePapers$Want;", .fieldLink RX10 19 "CakePapers$Want" "length" "I", .fieldLink RX10 25 "CakePapers$Want" "units" "I", .fieldLink RX10 9 "CakePapers$WantReader" "scanner" "LCakePapers$Scanner;", .code yX8_pass cX8_pass 2 (some .boolean), .fieldLink RX8 55 "CakePapers$Scanner" "kind" "I", .code yX8_refuse cX8_refuse 1 (some .boolean), .code yX8_blame cX8_blame 2 (some .boolean), .fieldLink RX8 46 "CakePapers$Scanner" "fault" "I", .fieldLink RX8 52 "CakePapers$Scanner" "place" "I", .fieldLink RX8 19 "CakePapers$Scanner" "faultPlace" "I", .methodLink RX8 84 yX8_blame, .instanceMethod yX8_blame, .selects RX8 yX8_blame yX8_blame, .initialized RX8, .methodLink RX8 87 yX8_refuse, .instanceMethod yX8_refuse, .selects RX8 yX8_refuse yX8_refuse, .methodLink RX10 30 yX8_pass, .instanceMethod yX8_pass, .selects RX8 yX8_pass yX8_pass]) (by decide +kernel)) (goodIn_sub iX10_c_X11_want zgX10)) (goodIn_sub iX9_c_X11_want zgX9)) (goodIn_sub iX8_c_X11_want zgX8))
set_option maxHeartbeats 1000000 in
set_option maxRecDepth 100000 in
theorem c_X11_want (l : Launch) (dC : Nat → ClassId) (dI : Nat → Nat → Nat) (sz : Nat) (h0 h4 h5 h6 h2 : Nat) (cI : ClassId) (g : Nat → Int32) (fs : List Value) (hn_fs : fs.length = 16) (e_fs_0 : fs[0]? = some (.ref h4)) (e_fs_1 : fs[1]? = some (.int 0)) (e_fs_2 : fs[2]? = some (.ref h5)) (e_fs_4 : fs[4]? = some (.ref h6)) (e_fs_9 : fs[9]? = some (.ref h2)) (ws : List Value) (hn_ws : ws.length = 5) (ss : List Value) (hn_ss : ss.length = 10) (rs : List Value) (hn_rs : rs.length = 2) (e_rs_0 : rs[0]? = some (.ref h5)) : Met l yX11_want u_c_X11_want ({ frames := 4, cells := 0, slots := 0, locals := 83 }) (va_Pc [.ref h0] (fun U => U.heap.size = sz ∧ va_P (dC, dI) vwCl [(h0, .inr (11, fs)), (h2, .inr (9, ws)), (h4, .inl (cI, 1200, .inl g)), (h5, .inr (8, ss)), (h6, .inr (10, rs))] U.heap ∧ va_K (dC, dI) vwCl [(cI, .int)] U ∧ va_D (fun _ => True) [(h0, .inr (11, fs)), (h2, .inr (9, ws)), (h4, .inl (cI, 1200, .inl g)), (h5, .inr (8, ss)), (h6, .inr (10, rs))])) (va_Qi (fun (r : Int32) (_ : Unit) => r = (-1)) (fun _ _ => True) (va_A [(h0, .inr (11, fs)), (h2, .inr (9, ws)), (h4, .inl (cI, 1200, .inl g)), (h5, .inr (8, ss)), (h6, .inr (10, rs))] sz)) 0 0 (va_A [(h0, .inr (11, fs)), (h2, .inr (9, ws)), (h4, .inl (cI, 1200, .inl g)), (h5, .inr (8, ss)), (h6, .inr (10, rs))] sz) := by
  refine Met.ofW (cc := cX11_want) (maxL := 2) (ret := (some .int)) (by decide) rfl ?_
  intro p e s m args below meth c s₁ B hml hv
  obtain ⟨rfl, hsz, hP, hK, hD0⟩ := hv
  have hx := B.exec
  have hb := B.bytes
  have hr := B.returns
  have hts := atoms_spec (ws := u_c_X11_want) B.pre
  have hown : s.vm.findClass RX11 = some m.cls := findClass_of_methodNamed B.named
  have hlocks := B.notSynchronized
  have hiX11 := iX11_c_X11_want
  have hiX9 := iX9_c_X11_want
  have hiX8 := iX8_c_X11_want
  have hiX10 := iX10_c_X11_want
  subst hsz
  have hD := hD0.self (sz := s.heap.size)
  generalize hAe : va_A [(h0, .inr (11, fs)), (h2, .inr (9, ws)), (h4, .inl (cI, 1200, .inl g)), (h5, .inr (8, ss)), (h6, .inr (10, rs))] s.heap.size = A at hD ⊢
  have hA : ∀ q : Nat, s.heap.size ≤ q → A q := fun q h => by rw [← hAe]; exact Or.inr h
  have hS : va_S A s.heap s.heap [] := va_S.rf
  obtain ⟨H, hH⟩ : ∃ H : Heap, H = s.heap := ⟨_, rfl⟩
  have hP : va_P (dC, dI) vwCl [(h0, .inr (11, fs)), (h2, .inr (9, ws)), (h4, .inl (cI, 1200, .inl g)), (h5, .inr (8, ss)), (h6, .inr (10, rs))] H := by rw [hH]; exact hP
  have hS : va_S A s.heap H [] := by rw [hH]; exact hS
  have hl := lv_entry ([.ref h0]) (n := 2) (Nat.le_of_ble_eq_true rfl)
  rw [lg_entry_eq]
  generalize (lg_sl ([.ref h0]) ++ List.replicate (2 - (lg_sl ([.ref h0])).length) Slot.unset).toArray = ls at hl ⊢
  have hl : lv_has ls 2 [(0, .ref h0)] := hl
  suffices h9 : W p l e (headSpec u_c_X11_want _).room s m _ below meth c H [] 0 0 _ (F0 m 0 ls []) by rw [hH] at h9; exact h9
  refine lv_aload_n hx hb dX11_want_0 rfl (lv_at hl 0 rfl) ?_
  refine va_get (D := (dC, dI)) (ci := 11) (v := .int 0) (C := RX11) (T := TX11) (N := 16) hx hb hts hiX11 hown hK hP 0 rfl rfl 1 (by decide) (hts (.fieldLink RX11 107 "CakePapers" "taped" "I") (by decide +kernel)) (fun _ h9 => h9) e_fs_1 dX11_want_1 ?_
  refine lv_sipush (v := 400) hx hb dX11_want_4 (by decide) ?_
  refine lv_icmp_le (tgt := 13) hx hb dX11_want_7 (by decide) (fun c_1 => ?_) (fun c_1 => absurd c_1 (by decide))
  refine lv_aload_n hx hb dX11_want_13 rfl (lv_at hl 0 rfl) ?_
  refine va_get (D := (dC, dI)) (ci := 11) (v := .ref h5) (C := RX11) (T := TX11) (N := 16) hx hb hts hiX11 hown hK hP 0 rfl rfl 2 (by decide) (hts (.fieldLink RX11 16 "CakePapers" "scanner" "LCakePapers$Scanner;") (by decide +kernel)) (fun _ h9 => h9) e_fs_2 dX11_want_14 ?_
  refine lv_aload_n hx hb dX11_want_17 rfl (lv_at hl 0 rfl) ?_
  refine va_get (D := (dC, dI)) (ci := 11) (v := .ref h4) (C := RX11) (T := TX11) (N := 16) hx hb hts hiX11 hown hK hP 0 rfl rfl 0 (by decide) (hts (.fieldLink RX11 9 "CakePapers" "tape" "[I") (by decide +kernel)) (fun _ h9 => h9) e_fs_0 dX11_want_18 ?_
  refine lv_aload_n hx hb dX11_want_21 rfl (lv_at hl 0 rfl) ?_
  refine va_get (D := (dC, dI)) (ci := 11) (v := .int 0) (C := RX11) (T := TX11) (N := 16) hx hb hts hiX11 hown hK hP 0 rfl rfl 1 (by decide) (hts (.fieldLink RX11 107 "CakePapers" "taped" "I") (by decide +kernel)) (fun _ h9 => h9) e_fs_1 dX11_want_22 ?_
  have hPc := hP.sub (ws' := [(h5, .inr (8, ss)), (h4, .inl (cI, 1200, .inl g))]) [3, 2] rfl
  have hDc := hD.sub (ws' := [(h5, .inr (8, ss)), (h4, .inl (cI, 1200, .inl g))]) [3, 2] (by decide) rfl
  have hKc := hK.sub (tys' := [(cI, .int)]) [0] rfl
  have hFc := va_free (wc := [(h5, .inr (8, ss)), (h4, .inl (cI, 1200, .inl g))]) hD hS hA [3, 2] rfl
  refine va_callv (va_runV (As := [.ref h4, .int 0]) (rest := []) ⟨hx, hb, hml, hown, hts⟩ (c_X8_start l dC dI H.size h5 h4 cI g ss hn_ss) (cwV 2 hts g_c_X11_want_c_X8_start_0 rfl rfl rfl (by decide +kernel) ⟨Nat.le_of_ble_eq_true rfl, Nat.le_of_ble_eq_true rfl⟩) ⟨fun a U g mk q => by obtain ⟨q0, q1, qP, qK, qD⟩ := q; exact ⟨q0, q1, qP, va_K.moved (u := U) (U := U.calling g mk a) (Vm.Alike.refl U.vm) qK, qD⟩, va_recv hKc hPc (ci := 8) (q0 := 0) rfl rfl, fun U hU hW => ⟨rfl, by rw [hU], by rw [hU]; exact hPc, va_K.moved hW.alike hKc, hDc.weaken (fun _ _ _ _ => trivial)⟩⟩ rfl rfl hl.1 rfl (lv_room (Nat.le_of_ble_eq_true rfl)) dX11_want_25 ⟨Nat.le_of_ble_eq_true rfl, Nat.le_of_ble_eq_true rfl⟩) hS (fun q _ h => hFc q h) hFc (fun u t H1 locs ht hvm hw hB hz1 hk1 hS => ?_)
  obtain ⟨hP1, hD1⟩ := hB
  rw [ht] at hP1
  obtain ⟨hP, hD⟩ := va_join (wr := [(h0, .inr (11, fs)), (h2, .inr (9, ws)), (h6, .inr (10, rs))]) (w1 := [(h5, .inr (8, (List.set (List.set (List.set (List.set (List.set (List.set (List.set ss 1 (.ref h4)) 2 (.int 0)) 3 (.int 0)) 8 (.int 0)) 9 (.int (-1))) 5 (.int 0)) 4 (.int 1)))), (h4, .inl (cI, 1200, .inl g))]) hP hD [3, 2] [0, 1, 4] rfl rfl (by decide) (by decide) hk1 hFc hP1 hD1
  generalize H1 = H at hP hS ⊢
  have hP : va_P (dC, dI) vwCl [(h0, .inr (11, fs)), (h2, .inr (9, ws)), (h6, .inr (10, rs)), (h5, .inr (8, (List.set (List.set (List.set (List.set (List.set (List.set (List.set ss 1 (.ref h4)) 2 (.int 0)) 3 (.int 0)) 8 (.int 0)) 9 (.int (-1))) 5 (.int 0)) 4 (.int 1)))), (h4, .inl (cI, 1200, .inl g))] H := hP
  have hD : va_D A [(h0, .inr (11, fs)), (h2, .inr (9, ws)), (h6, .inr (10, rs)), (h5, .inr (8, (List.set (List.set (List.set (List.set (List.set (List.set (List.set ss 1 (.ref h4)) 2 (.int 0)) 3 (.int 0)) 8 (.int 0)) 9 (.int (-1))) 5 (.int 0)) 4 (.int 1)))), (h4, .inl (cI, 1200, .inl g))] := hD
  refine W.widen (k := 0) (n := 0) (Nat.le_of_ble_eq_true rfl) (Nat.le_of_ble_eq_true rfl) ?_
  refine lv_aload_n hx hb dX11_want_28 rfl (lv_at hl 0 rfl) ?_
  refine va_get (D := (dC, dI)) (ci := 11) (v := .ref h6) (C := RX11) (T := TX11) (N := 16) hx hb hts hiX11 hown hK hP 0 rfl rfl 4 (by decide) (hts (.fieldLink RX11 32 "CakePapers" "wantReader" "LCakePapers$WantReader;") (by decide +kernel)) (fun _ h9 => h9) e_fs_4 dX11_want_29 ?_
  refine lv_aload_n hx hb dX11_want_32 rfl (lv_at hl 0 rfl) ?_
  refine va_get (D := (dC, dI)) (ci := 11) (v := .ref h2) (C := RX11) (T := TX11) (N := 16) hx hb hts hiX11 hown hK hP 0 rfl rfl 9 (by decide) (hts (.fieldLink RX11 67 "CakePapers" "spareWant" "LCakePapers$Want;") (by decide +kernel)) (fun _ h9 => h9) e_fs_9 dX11_want_33 ?_
  have hPc := hP.sub (ws' := [(h6, .inr (10, rs)), (h2, .inr (9, ws)), (h5, .inr (8, (List.set (List.set (List.set (List.set (List.set (List.set (List.set ss 1 (.ref h4)) 2 (.int 0)) 3 (.int 0)) 8 (.int 0)) 9 (.int (-1))) 5 (.int 0)) 4 (.int 1))))]) [2, 1, 3] rfl
  have hDc := hD.sub (ws' := [(h6, .inr (10, rs)), (h2, .inr (9, ws)), (h5, .inr (8, (List.set (List.set (List.set (List.set (List.set (List.set (List.set ss 1 (.ref h4)) 2 (.int 0)) 3 (.int 0)) 8 (.int 0)) 9 (.int (-1))) 5 (.int 0)) 4 (.int 1))))]) [2, 1, 3] (by decide) rfl
  have hKc := hK.sub (tys' := []) [] rfl
  have hFc := va_free (wc := [(h6, .inr (10, rs)), (h2, .inr (9, ws)), (h5, .inr (8, (List.set (List.set (List.set (List.set (List.set (List.set (List.set ss 1 (.ref h4)) 2 (.int 0)) 3 (.int 0)) 8 (.int 0)) 9 (.int (-1))) 5 (.int 0)) 4 (.int 1))))]) hD hS hA [2, 1, 3] rfl
  refine va_calli (va_runV (As := [.ref h2]) (rest := []) ⟨hx, hb, hml, hown, hts⟩ (c_X10_read l dC dI H.size h6 h2 h5 rs hn_rs e_rs_0 ws hn_ws (List.set (List.set (List.set (List.set (List.set (List.set (List.set ss 1 (.ref h4)) 2 (.int 0)) 3 (.int 0)) 8 (.int 0)) 9 (.int (-1))) 5 (.int 0)) 4 (.int 1)) (by simp [hn_ss]) (by simp [hn_ss]) (by simp [hn_ss])) (cwV 1 hts g_c_X11_want_c_X10_read_1 rfl rfl rfl (by decide +kernel) ⟨Nat.le_of_ble_eq_true rfl, Nat.le_of_ble_eq_true rfl⟩) ⟨fun a U g mk q => by obtain ⟨q0, q1, qP, qK, qD⟩ := q; exact ⟨q0, q1, qP, va_K.moved (u := U) (U := U.calling g mk a) (Vm.Alike.refl U.vm) qK, qD⟩, va_recv hKc hPc (ci := 10) (q0 := 0) rfl rfl, fun U hU hW => ⟨rfl, by rw [hU], by rw [hU]; exact hPc, va_K.moved hW.alike hKc, hDc.weaken (fun _ _ _ _ => trivial)⟩⟩ rfl rfl hl.1 rfl (lv_room (Nat.le_of_ble_eq_true rfl)) dX11_want_36 ⟨Nat.le_of_ble_eq_true rfl, Nat.le_of_ble_eq_true rfl⟩) hS (fun q _ h => hFc q h) hFc (fun r_3 u t H1 locs ht hvm hw hB hz1 hk1 hS => ?_)
  obtain ⟨hP, hD⟩ := va_join (wr := [(h0, .inr (11, fs)), (h4, .inl (cI, 1200, .inl g))]) (w1 := []) hP hD [2, 1, 3] [0, 4] rfl rfl (by decide) (by decide) hk1 hFc zz_P0 zz_D0
  generalize H1 = H at hP hS ⊢
  have hP : va_P (dC, dI) vwCl [(h0, .inr (11, fs)), (h4, .inl (cI, 1200, .inl g))] H := hP
  have hD : va_D A [(h0, .inr (11, fs)), (h4, .inl (cI, 1200, .inl g))] := hD
  refine W.widen (k := 0) (n := 0) (Nat.le_of_ble_eq_true rfl) (Nat.le_of_ble_eq_true rfl) ?_
  refine zz_ci (y := 0) hw ?_
  refine lv_if_ne (tgt := 44) hx hb dX11_want_39 (by decide) (fun c_4 => absurd c_4 (by decide)) (fun c_4 => ?_)
  refine lv_iconst (v := (-1)) hx hb dX11_want_42 (by decide) ?_
  refine W.widen (k := 0) (n := 0) (Nat.le_of_ble_eq_true rfl) (Nat.le_of_ble_eq_true rfl) ?_
  exact W.iret (v := (-1)) hx hb hr (fun t ht hW => ⟨⟨(-1), (), rfl, rfl, trivial⟩, hS.F ht⟩) hS.2.2 dX11_want_43
def u_c_X1_copyFrom : List Cond := .code yX1_copyFrom cX1_copyFrom 3 none :: ([.fieldLink RX1 13 "CakePapers$Desk" "papers" "[LCakePapers$Paper;", .fieldLink RX1 24 "CakePapers$Desk" "count" "I", .fieldLink RX1 20 "CakePapers$Desk" "joining" "LCakePapers$Joining;", .code yX4_copyFrom cX4_copyFrom 3 none, .code yX4_isThere cX4_isThere 1 (some .boolean), .fieldLink RX4 38 "CakePapers$Joining" "base" "LCakePapers$Paper;", .methodLink RX4 55 yX4_isThere, .instanceMethod yX4_isThere, .selects RX4 yX4_isThere yX4_isThere, .initialized RX4, .code yX4_clear cX4_clear 1 none, .fieldLink RX4 42 "CakePapers$Joining" "one" "LCakePapers$Paper;", .fieldLink RX4 45 "CakePapers$Joining" "other" "LCakePapers$Paper;", .fieldLink RX4 52 "CakePapers$Joining" "steps" "I", .fieldLink RX4 48 "CakePapers$Joining" "quarrels" "I", .methodLink RX4 59 yX4_clear, .instanceMethod yX4_clear, .selects RX4 yX4_clear yX4_clear, .methodLink RX1 41 yX4_copyFrom, .instanceMethod yX4_copyFrom, .selects RX4 yX4_copyFrom yX4_copyFrom] ++ wsX10 ++ wsX40)
theorem iX1_c_X1_copyFrom : ∀ w ∈ wsX10, w ∈ u_c_X1_copyFrom := fun w h => List.mem_cons_of_mem _ (List.mem_append_left _ (List.mem_append_right _ h))
theorem iX4_c_X1_copyFrom : ∀ w ∈ wsX40, w ∈ u_c_X1_copyFrom := fun w h => List.mem_cons_of_mem _ (List.mem_append_right _ h)
set_option maxRecDepth 20000 in
theorem g_c_X1_copyFrom_c_X4_copyFrom_0 : GoodIn u_c_X1_copyFrom (wsV RX1 41 RX4 yX4_copyFrom u_c_X4_copyFrom) := goodIn_app (goodIn_of _ (by decide +kernel)) (goodIn_ca (goodIn_of (.code yX4_copyFrom cX4_copyFrom 3 none :: [.code yX4_isThere cX4_isThere 1 (some .boolean), .fieldLink RX4 38 "CakePapers$Joining" "base" "LCakePapers$Paper;", .methodLink RX4 55 yX4_isThere, .instanceMethod yX4_isThere, .selects RX4 yX4_isThere yX4_isThere, .initialized RX4, .code yX4_clear cX4_clear 1 none, .fieldLink RX4 42 "CakePapers$Joining" "one" "LCakePapers$Paper;", .fieldLink RX4 45 "CakePapers$Joining" "other" "LCakePapers$Paper;", .fieldLink RX4 52 "CakePapers$Joining" "steps" "I", .fieldLink RX4 48 "CakePapers$Joining" "quarrels" "I", .methodLink RX4 59 yX4_clear, .instanceMethod yX4_clear, .selects RX4 yX4_clear yX4_clear]) (by decide +kernel)) (goodIn_sub iX4_c_X1_copyFrom zgX4))
set_option maxHeartbeats 1000000 in
set_option maxRecDepth 100000 in
theorem c_X1_copyFrom (l : Launch) (dC : Nat → ClassId) (dI : Nat → Nat → Nat) (sz : Nat) (h0 h1 h2 h3 h4 h5 : Nat) (cP cQ : ClassId) (f : Nat → Option Nat) (fs : List Value) (hn_fs : fs.length = 3) (e_fs_0 : fs[0]? = some (.ref h2)) (e_fs_1 : fs[1]? = some (.ref h3)) (gs : List Value) (hn_gs : gs.length = 3) (e_gs_0 : gs[0]? = some (.ref h4)) (e_gs_1 : gs[1]? = some (.ref h5)) (e_gs_2 : gs[2]? = some (.int 0)) (js : List Value) (hn_js : js.length = 13) (ks : List Value) (hn_ks : ks.length = 13) (e_ks_0 : ks[0]? = some .null) : Met l yX1_copyFrom u_c_X1_copyFrom ({ frames := 2, cells := 0, slots := 0, locals := 42 }) (va_Pc [.ref h0, .ref h1] (fun U => U.heap.size = sz ∧ va_P (dC, dI) vwCl [(h0, .inr (1, fs)), (h1, .inr (1, gs)), (h2, .inl (cP, 8, .inr (.inr (.inr (.inr f))))), (h3, .inr (4, js)), (h4, .inl (cQ, 8, .inr (.inr (.inr (.inr (fun _ => none)))))), (h5, .inr (4, ks))] U.heap ∧ va_K (dC, dI) vwCl [(cP, (.object RX6)), (cQ, (.object RX6))] U ∧ va_D (fun _ => True) [(h0, .inr (1, fs)), (h1, .inr (1, gs)), (h2, .inl (cP, 8, .inr (.inr (.inr (.inr f))))), (h3, .inr (4, js)), (h4, .inl (cQ, 8, .inr (.inr (.inr (.inr (fun _ => none)))))), (h5, .inr (4, ks))])) (va_Qv (fun (_ : Unit) => True) (fun _ t => va_P (dC, dI) vwCl [(h1, .inr (1, gs))] t.heap ∧ va_D (va_A [(h0, .inr (1, fs)), (h1, .inr (1, gs)), (h2, .inl (cP, 8, .inr (.inr (.inr (.inr f))))), (h3, .inr (4, js)), (h4, .inl (cQ, 8, .inr (.inr (.inr (.inr (fun _ => none)))))), (h5, .inr (4, ks))] sz) [(h1, .inr (1, gs))]) (va_A [(h0, .inr (1, fs)), (h1, .inr (1, gs)), (h2, .inl (cP, 8, .inr (.inr (.inr (.inr f))))), (h3, .inr (4, js)), (h4, .inl (cQ, 8, .inr (.inr (.inr (.inr (fun _ => none)))))), (h5, .inr (4, ks))] sz)) 0 0 (va_A [(h0, .inr (1, fs)), (h1, .inr (1, gs)), (h2, .inl (cP, 8, .inr (.inr (.inr (.inr f))))), (h3, .inr (4, js)), (h4, .inl (cQ, 8, .inr (.inr (.inr (.inr (fun _ => none)))))), (h5, .inr (4, ks))] sz) := by
  refine Met.ofW (cc := cX1_copyFrom) (maxL := 3) (ret := none) (by decide) rfl ?_
  intro p e s m args below meth c s₁ B hml hv
  obtain ⟨rfl, hsz, hP, hK, hD0⟩ := hv
  have hx := B.exec
  have hb := B.bytes
  have hr := B.returns
  have hts := atoms_spec (ws := u_c_X1_copyFrom) B.pre
  have hown : s.vm.findClass RX1 = some m.cls := findClass_of_methodNamed B.named
  have hlocks := B.notSynchronized
  have hiX1 := iX1_c_X1_copyFrom
  have hiX4 := iX4_c_X1_copyFrom
  subst hsz
  have hD := hD0.self (sz := s.heap.size)
  generalize hAe : va_A [(h0, .inr (1, fs)), (h1, .inr (1, gs)), (h2, .inl (cP, 8, .inr (.inr (.inr (.inr f))))), (h3, .inr (4, js)), (h4, .inl (cQ, 8, .inr (.inr (.inr (.inr (fun _ => none)))))), (h5, .inr (4, ks))] s.heap.size = A at hD ⊢
  have hA : ∀ q : Nat, s.heap.size ≤ q → A q := fun q h => by rw [← hAe]; exact Or.inr h
  have hS : va_S A s.heap s.heap [] := va_S.rf
  obtain ⟨H, hH⟩ : ∃ H : Heap, H = s.heap := ⟨_, rfl⟩
  have hP : va_P (dC, dI) vwCl [(h0, .inr (1, fs)), (h1, .inr (1, gs)), (h2, .inl (cP, 8, .inr (.inr (.inr (.inr f))))), (h3, .inr (4, js)), (h4, .inl (cQ, 8, .inr (.inr (.inr (.inr (fun _ => none)))))), (h5, .inr (4, ks))] H := by rw [hH]; exact hP
  have hS : va_S A s.heap H [] := by rw [hH]; exact hS
  have hl := lv_entry ([.ref h0, .ref h1]) (n := 3) (Nat.le_of_ble_eq_true rfl)
  rw [lg_entry_eq]
  generalize (lg_sl ([.ref h0, .ref h1]) ++ List.replicate (3 - (lg_sl ([.ref h0, .ref h1])).length) Slot.unset).toArray = ls at hl ⊢
  have hl : lv_has ls 3 [(0, .ref h0), (1, .ref h1)] := hl
  suffices h9 : W p l e (headSpec u_c_X1_copyFrom _).room s m _ below meth c H [] 0 0 _ (F0 m 0 ls []) by rw [hH] at h9; exact h9
  refine lv_iconst (v := 0) hx hb dX1_copyFrom_0 (by decide) ?_
  refine lv_istore_n (lv' := [(2, .int 0), (0, .ref h0), (1, .ref h1)]) hx hb dX1_copyFrom_1 rfl hl (by decide) rfl (fun ls hl => ?_)
  refine lv_iload_n hx hb dX1_copyFrom_2 rfl (lv_at hl 0 rfl) ?_
  refine lv_bipush (v := 8) hx hb dX1_copyFrom_3 (by decide) ?_
  refine lv_icmp_ge (tgt := 26) hx hb dX1_copyFrom_5 (by decide) (fun c_1 => absurd c_1 (by decide)) (fun c_1 => ?_)
  refine lv_aload_n hx hb dX1_copyFrom_8 rfl (lv_at hl 1 rfl) ?_
  refine va_get (D := (dC, dI)) (ci := 1) (v := .ref h2) (C := RX1) (T := TX1) (N := 3) hx hb hts hiX1 hown hK hP 0 rfl rfl 0 (by decide) (hts (.fieldLink RX1 13 "CakePapers$Desk" "papers" "[LCakePapers$Paper;") (by decide +kernel)) (fun _ h9 => h9) e_fs_0 dX1_copyFrom_9 ?_
  refine lv_iload_n hx hb dX1_copyFrom_12 rfl (lv_at hl 0 rfl) ?_
  refine lv_aload_n hx hb dX1_copyFrom_13 rfl (lv_at hl 2 rfl) ?_
  refine va_get (D := (dC, dI)) (ci := 1) (v := .ref h4) (C := RX1) (T := TX1) (N := 3) hx hb hts hiX1 hown hK hP 1 rfl rfl 0 (by decide) (hts (.fieldLink RX1 13 "CakePapers$Desk" "papers" "[LCakePapers$Paper;") (by decide +kernel)) (fun _ h9 => h9) e_gs_0 dX1_copyFrom_14 ?_
  refine lv_iload_n hx hb dX1_copyFrom_17 rfl (lv_at hl 0 rfl) ?_
  refine va_aldq hx hb hK hP 4 1 rfl rfl (zz_in (by decide)) dX1_copyFrom_18 ?_
  refine W.eq (g2 := F0 m 19 ls [.null, .int 0, .ref h2]) rfl ?_
  refine va_astqN hx hb hK hP hD hS 2 0 rfl rfl (zz_in (by decide)) dX1_copyFrom_19 (fun H locs hP hD hS => ?_)
  obtain ⟨f_2, hP, hD⟩ : ∃ f_2 : Nat → Option Nat, va_P (dC, dI) vwCl [(h0, .inr (1, fs)), (h1, .inr (1, gs)), (h2, .inl (cP, 8, .inr (.inr (.inr (.inr f_2))))), (h3, .inr (4, js)), (h4, .inl (cQ, 8, .inr (.inr (.inr (.inr (fun _ => none)))))), (h5, .inr (4, ks))] H ∧ va_D A [(h0, .inr (1, fs)), (h1, .inr (1, gs)), (h2, .inl (cP, 8, .inr (.inr (.inr (.inr f_2))))), (h3, .inr (4, js)), (h4, .inl (cQ, 8, .inr (.inr (.inr (.inr (fun _ => none)))))), (h5, .inr (4, ks))] := ⟨_, hP, hD⟩
  refine lv_iinc (v := 1) (lv' := [(2, .int 1), (0, .ref h0), (1, .ref h1)]) hx hb dX1_copyFrom_20 hl (k := 0) rfl (by decide) (by decide) rfl (fun ls hl => ?_)
  refine lv_goto (tgt := 2) hx hb dX1_copyFrom_23 (by decide) ?_
  refine lv_iload_n hx hb dX1_copyFrom_2 rfl (lv_at hl 0 rfl) ?_
  refine lv_bipush (v := 8) hx hb dX1_copyFrom_3 (by decide) ?_
  refine lv_icmp_ge (tgt := 26) hx hb dX1_copyFrom_5 (by decide) (fun c_3 => absurd c_3 (by decide)) (fun c_3 => ?_)
  refine lv_aload_n hx hb dX1_copyFrom_8 rfl (lv_at hl 1 rfl) ?_
  refine va_get (D := (dC, dI)) (ci := 1) (v := .ref h2) (C := RX1) (T := TX1) (N := 3) hx hb hts hiX1 hown hK hP 0 rfl rfl 0 (by decide) (hts (.fieldLink RX1 13 "CakePapers$Desk" "papers" "[LCakePapers$Paper;") (by decide +kernel)) (fun _ h9 => h9) e_fs_0 dX1_copyFrom_9 ?_
  refine lv_iload_n hx hb dX1_copyFrom_12 rfl (lv_at hl 0 rfl) ?_
  refine lv_aload_n hx hb dX1_copyFrom_13 rfl (lv_at hl 2 rfl) ?_
  refine va_get (D := (dC, dI)) (ci := 1) (v := .ref h4) (C := RX1) (T := TX1) (N := 3) hx hb hts hiX1 hown hK hP 1 rfl rfl 0 (by decide) (hts (.fieldLink RX1 13 "CakePapers$Desk" "papers" "[LCakePapers$Paper;") (by decide +kernel)) (fun _ h9 => h9) e_gs_0 dX1_copyFrom_14 ?_
  refine lv_iload_n hx hb dX1_copyFrom_17 rfl (lv_at hl 0 rfl) ?_
  refine va_aldq hx hb hK hP 4 1 rfl rfl (zz_in (by decide)) dX1_copyFrom_18 ?_
  refine W.eq (g2 := F0 m 19 ls [.null, .int 1, .ref h2]) rfl ?_
  refine va_astqN hx hb hK hP hD hS 2 0 rfl rfl (zz_in (by decide)) dX1_copyFrom_19 (fun H locs hP hD hS => ?_)
  obtain ⟨f_4, hP, hD⟩ : ∃ f_4 : Nat → Option Nat, va_P (dC, dI) vwCl [(h0, .inr (1, fs)), (h1, .inr (1, gs)), (h2, .inl (cP, 8, .inr (.inr (.inr (.inr f_4))))), (h3, .inr (4, js)), (h4, .inl (cQ, 8, .inr (.inr (.inr (.inr (fun _ => none)))))), (h5, .inr (4, ks))] H ∧ va_D A [(h0, .inr (1, fs)), (h1, .inr (1, gs)), (h2, .inl (cP, 8, .inr (.inr (.inr (.inr f_4))))), (h3, .inr (4, js)), (h4, .inl (cQ, 8, .inr (.inr (.inr (.inr (fun _ => none)))))), (h5, .inr (4, ks))] := ⟨_, hP, hD⟩
  refine lv_iinc (v := 2) (lv' := [(2, .int 2), (0, .ref h0), (1, .ref h1)]) hx hb dX1_copyFrom_20 hl (k := 0) rfl (by decide) (by decide) rfl (fun ls hl => ?_)
  refine lv_goto (tgt := 2) hx hb dX1_copyFrom_23 (by decide) ?_
  refine lv_iload_n hx hb dX1_copyFrom_2 rfl (lv_at hl 0 rfl) ?_
  refine lv_bipush (v := 8) hx hb dX1_copyFrom_3 (by decide) ?_
  refine lv_icmp_ge (tgt := 26) hx hb dX1_copyFrom_5 (by decide) (fun c_5 => absurd c_5 (by decide)) (fun c_5 => ?_)
  refine lv_aload_n hx hb dX1_copyFrom_8 rfl (lv_at hl 1 rfl) ?_
  refine va_get (D := (dC, dI)) (ci := 1) (v := .ref h2) (C := RX1) (T := TX1) (N := 3) hx hb hts hiX1 hown hK hP 0 rfl rfl 0 (by decide) (hts (.fieldLink RX1 13 "CakePapers$Desk" "papers" "[LCakePapers$Paper;") (by decide +kernel)) (fun _ h9 => h9) e_fs_0 dX1_copyFrom_9 ?_
  refine lv_iload_n hx hb dX1_copyFrom_12 rfl (lv_at hl 0 rfl) ?_
  refine lv_aload_n hx hb dX1_copyFrom_13 rfl (lv_at hl 2 rfl) ?_
  refine va_get (D := (dC, dI)) (ci := 1) (v := .ref h4) (C := RX1) (T := TX1) (N := 3) hx hb hts hiX1 hown hK hP 1 rfl rfl 0 (by decide) (hts (.fieldLink RX1 13 "CakePapers$Desk" "papers" "[LCakePapers$Paper;") (by decide +kernel)) (fun _ h9 => h9) e_gs_0 dX1_copyFrom_14 ?_
  refine lv_iload_n hx hb dX1_copyFrom_17 rfl (lv_at hl 0 rfl) ?_
  refine va_aldq hx hb hK hP 4 1 rfl rfl (zz_in (by decide)) dX1_copyFrom_18 ?_
  refine W.eq (g2 := F0 m 19 ls [.null, .int 2, .ref h2]) rfl ?_
  refine va_astqN hx hb hK hP hD hS 2 0 rfl rfl (zz_in (by decide)) dX1_copyFrom_19 (fun H locs hP hD hS => ?_)
  obtain ⟨f_6, hP, hD⟩ : ∃ f_6 : Nat → Option Nat, va_P (dC, dI) vwCl [(h0, .inr (1, fs)), (h1, .inr (1, gs)), (h2, .inl (cP, 8, .inr (.inr (.inr (.inr f_6))))), (h3, .inr (4, js)), (h4, .inl (cQ, 8, .inr (.inr (.inr (.inr (fun _ => none)))))), (h5, .inr (4, ks))] H ∧ va_D A [(h0, .inr (1, fs)), (h1, .inr (1, gs)), (h2, .inl (cP, 8, .inr (.inr (.inr (.inr f_6))))), (h3, .inr (4, js)), (h4, .inl (cQ, 8, .inr (.inr (.inr (.inr (fun _ => none)))))), (h5, .inr (4, ks))] := ⟨_, hP, hD⟩
  refine lv_iinc (v := 3) (lv' := [(2, .int 3), (0, .ref h0), (1, .ref h1)]) hx hb dX1_copyFrom_20 hl (k := 0) rfl (by decide) (by decide) rfl (fun ls hl => ?_)
  refine lv_goto (tgt := 2) hx hb dX1_copyFrom_23 (by decide) ?_
  refine lv_iload_n hx hb dX1_copyFrom_2 rfl (lv_at hl 0 rfl) ?_
  refine lv_bipush (v := 8) hx hb dX1_copyFrom_3 (by decide) ?_
  refine lv_icmp_ge (tgt := 26) hx hb dX1_copyFrom_5 (by decide) (fun c_7 => absurd c_7 (by decide)) (fun c_7 => ?_)
  refine lv_aload_n hx hb dX1_copyFrom_8 rfl (lv_at hl 1 rfl) ?_
  refine va_get (D := (dC, dI)) (ci := 1) (v := .ref h2) (C := RX1) (T := TX1) (N := 3) hx hb hts hiX1 hown hK hP 0 rfl rfl 0 (by decide) (hts (.fieldLink RX1 13 "CakePapers$Desk" "papers" "[LCakePapers$Paper;") (by decide +kernel)) (fun _ h9 => h9) e_fs_0 dX1_copyFrom_9 ?_
  refine lv_iload_n hx hb dX1_copyFrom_12 rfl (lv_at hl 0 rfl) ?_
  refine lv_aload_n hx hb dX1_copyFrom_13 rfl (lv_at hl 2 rfl) ?_
  refine va_get (D := (dC, dI)) (ci := 1) (v := .ref h4) (C := RX1) (T := TX1) (N := 3) hx hb hts hiX1 hown hK hP 1 rfl rfl 0 (by decide) (hts (.fieldLink RX1 13 "CakePapers$Desk" "papers" "[LCakePapers$Paper;") (by decide +kernel)) (fun _ h9 => h9) e_gs_0 dX1_copyFrom_14 ?_
  refine lv_iload_n hx hb dX1_copyFrom_17 rfl (lv_at hl 0 rfl) ?_
  refine va_aldq hx hb hK hP 4 1 rfl rfl (zz_in (by decide)) dX1_copyFrom_18 ?_
  refine W.eq (g2 := F0 m 19 ls [.null, .int 3, .ref h2]) rfl ?_
  refine va_astqN hx hb hK hP hD hS 2 0 rfl rfl (zz_in (by decide)) dX1_copyFrom_19 (fun H locs hP hD hS => ?_)
  obtain ⟨f_8, hP, hD⟩ : ∃ f_8 : Nat → Option Nat, va_P (dC, dI) vwCl [(h0, .inr (1, fs)), (h1, .inr (1, gs)), (h2, .inl (cP, 8, .inr (.inr (.inr (.inr f_8))))), (h3, .inr (4, js)), (h4, .inl (cQ, 8, .inr (.inr (.inr (.inr (fun _ => none)))))), (h5, .inr (4, ks))] H ∧ va_D A [(h0, .inr (1, fs)), (h1, .inr (1, gs)), (h2, .inl (cP, 8, .inr (.inr (.inr (.inr f_8))))), (h3, .inr (4, js)), (h4, .inl (cQ, 8, .inr (.inr (.inr (.inr (fun _ => none)))))), (h5, .inr (4, ks))] := ⟨_, hP, hD⟩
  refine lv_iinc (v := 4) (lv' := [(2, .int 4), (0, .ref h0), (1, .ref h1)]) hx hb dX1_copyFrom_20 hl (k := 0) rfl (by decide) (by decide) rfl (fun ls hl => ?_)
  refine lv_goto (tgt := 2) hx hb dX1_copyFrom_23 (by decide) ?_
  refine lv_iload_n hx hb dX1_copyFrom_2 rfl (lv_at hl 0 rfl) ?_
  refine lv_bipush (v := 8) hx hb dX1_copyFrom_3 (by decide) ?_
  refine lv_icmp_ge (tgt := 26) hx hb dX1_copyFrom_5 (by decide) (fun c_9 => absurd c_9 (by decide)) (fun c_9 => ?_)
  refine lv_aload_n hx hb dX1_copyFrom_8 rfl (lv_at hl 1 rfl) ?_
  refine va_get (D := (dC, dI)) (ci := 1) (v := .ref h2) (C := RX1) (T := TX1) (N := 3) hx hb hts hiX1 hown hK hP 0 rfl rfl 0 (by decide) (hts (.fieldLink RX1 13 "CakePapers$Desk" "papers" "[LCakePapers$Paper;") (by decide +kernel)) (fun _ h9 => h9) e_fs_0 dX1_copyFrom_9 ?_
  refine lv_iload_n hx hb dX1_copyFrom_12 rfl (lv_at hl 0 rfl) ?_
  refine lv_aload_n hx hb dX1_copyFrom_13 rfl (lv_at hl 2 rfl) ?_
  refine va_get (D := (dC, dI)) (ci := 1) (v := .ref h4) (C := RX1) (T := TX1) (N := 3) hx hb hts hiX1 hown hK hP 1 rfl rfl 0 (by decide) (hts (.fieldLink RX1 13 "CakePapers$Desk" "papers" "[LCakePapers$Paper;") (by decide +kernel)) (fun _ h9 => h9) e_gs_0 dX1_copyFrom_14 ?_
  refine lv_iload_n hx hb dX1_copyFrom_17 rfl (lv_at hl 0 rfl) ?_
  refine va_aldq hx hb hK hP 4 1 rfl rfl (zz_in (by decide)) dX1_copyFrom_18 ?_
  refine W.eq (g2 := F0 m 19 ls [.null, .int 4, .ref h2]) rfl ?_
  refine va_astqN hx hb hK hP hD hS 2 0 rfl rfl (zz_in (by decide)) dX1_copyFrom_19 (fun H locs hP hD hS => ?_)
  obtain ⟨f_10, hP, hD⟩ : ∃ f_10 : Nat → Option Nat, va_P (dC, dI) vwCl [(h0, .inr (1, fs)), (h1, .inr (1, gs)), (h2, .inl (cP, 8, .inr (.inr (.inr (.inr f_10))))), (h3, .inr (4, js)), (h4, .inl (cQ, 8, .inr (.inr (.inr (.inr (fun _ => none)))))), (h5, .inr (4, ks))] H ∧ va_D A [(h0, .inr (1, fs)), (h1, .inr (1, gs)), (h2, .inl (cP, 8, .inr (.inr (.inr (.inr f_10))))), (h3, .inr (4, js)), (h4, .inl (cQ, 8, .inr (.inr (.inr (.inr (fun _ => none)))))), (h5, .inr (4, ks))] := ⟨_, hP, hD⟩
  refine lv_iinc (v := 5) (lv' := [(2, .int 5), (0, .ref h0), (1, .ref h1)]) hx hb dX1_copyFrom_20 hl (k := 0) rfl (by decide) (by decide) rfl (fun ls hl => ?_)
  refine lv_goto (tgt := 2) hx hb dX1_copyFrom_23 (by decide) ?_
  refine lv_iload_n hx hb dX1_copyFrom_2 rfl (lv_at hl 0 rfl) ?_
  refine lv_bipush (v := 8) hx hb dX1_copyFrom_3 (by decide) ?_
  refine lv_icmp_ge (tgt := 26) hx hb dX1_copyFrom_5 (by decide) (fun c_11 => absurd c_11 (by decide)) (fun c_11 => ?_)
  refine lv_aload_n hx hb dX1_copyFrom_8 rfl (lv_at hl 1 rfl) ?_
  refine va_get (D := (dC, dI)) (ci := 1) (v := .ref h2) (C := RX1) (T := TX1) (N := 3) hx hb hts hiX1 hown hK hP 0 rfl rfl 0 (by decide) (hts (.fieldLink RX1 13 "CakePapers$Desk" "papers" "[LCakePapers$Paper;") (by decide +kernel)) (fun _ h9 => h9) e_fs_0 dX1_copyFrom_9 ?_
  refine lv_iload_n hx hb dX1_copyFrom_12 rfl (lv_at hl 0 rfl) ?_
  refine lv_aload_n hx hb dX1_copyFrom_13 rfl (lv_at hl 2 rfl) ?_
  refine va_get (D := (dC, dI)) (ci := 1) (v := .ref h4) (C := RX1) (T := TX1) (N := 3) hx hb hts hiX1 hown hK hP 1 rfl rfl 0 (by decide) (hts (.fieldLink RX1 13 "CakePapers$Desk" "papers" "[LCakePapers$Paper;") (by decide +kernel)) (fun _ h9 => h9) e_gs_0 dX1_copyFrom_14 ?_
  refine lv_iload_n hx hb dX1_copyFrom_17 rfl (lv_at hl 0 rfl) ?_
  refine va_aldq hx hb hK hP 4 1 rfl rfl (zz_in (by decide)) dX1_copyFrom_18 ?_
  refine W.eq (g2 := F0 m 19 ls [.null, .int 5, .ref h2]) rfl ?_
  refine va_astqN hx hb hK hP hD hS 2 0 rfl rfl (zz_in (by decide)) dX1_copyFrom_19 (fun H locs hP hD hS => ?_)
  obtain ⟨f_12, hP, hD⟩ : ∃ f_12 : Nat → Option Nat, va_P (dC, dI) vwCl [(h0, .inr (1, fs)), (h1, .inr (1, gs)), (h2, .inl (cP, 8, .inr (.inr (.inr (.inr f_12))))), (h3, .inr (4, js)), (h4, .inl (cQ, 8, .inr (.inr (.inr (.inr (fun _ => none)))))), (h5, .inr (4, ks))] H ∧ va_D A [(h0, .inr (1, fs)), (h1, .inr (1, gs)), (h2, .inl (cP, 8, .inr (.inr (.inr (.inr f_12))))), (h3, .inr (4, js)), (h4, .inl (cQ, 8, .inr (.inr (.inr (.inr (fun _ => none)))))), (h5, .inr (4, ks))] := ⟨_, hP, hD⟩
  refine lv_iinc (v := 6) (lv' := [(2, .int 6), (0, .ref h0), (1, .ref h1)]) hx hb dX1_copyFrom_20 hl (k := 0) rfl (by decide) (by decide) rfl (fun ls hl => ?_)
  refine lv_goto (tgt := 2) hx hb dX1_copyFrom_23 (by decide) ?_
  refine lv_iload_n hx hb dX1_copyFrom_2 rfl (lv_at hl 0 rfl) ?_
  refine lv_bipush (v := 8) hx hb dX1_copyFrom_3 (by decide) ?_
  refine lv_icmp_ge (tgt := 26) hx hb dX1_copyFrom_5 (by decide) (fun c_13 => absurd c_13 (by decide)) (fun c_13 => ?_)
  refine lv_aload_n hx hb dX1_copyFrom_8 rfl (lv_at hl 1 rfl) ?_
  refine va_get (D := (dC, dI)) (ci := 1) (v := .ref h2) (C := RX1) (T := TX1) (N := 3) hx hb hts hiX1 hown hK hP 0 rfl rfl 0 (by decide) (hts (.fieldLink RX1 13 "CakePapers$Desk" "papers" "[LCakePapers$Paper;") (by decide +kernel)) (fun _ h9 => h9) e_fs_0 dX1_copyFrom_9 ?_
  refine lv_iload_n hx hb dX1_copyFrom_12 rfl (lv_at hl 0 rfl) ?_
  refine lv_aload_n hx hb dX1_copyFrom_13 rfl (lv_at hl 2 rfl) ?_
  refine va_get (D := (dC, dI)) (ci := 1) (v := .ref h4) (C := RX1) (T := TX1) (N := 3) hx hb hts hiX1 hown hK hP 1 rfl rfl 0 (by decide) (hts (.fieldLink RX1 13 "CakePapers$Desk" "papers" "[LCakePapers$Paper;") (by decide +kernel)) (fun _ h9 => h9) e_gs_0 dX1_copyFrom_14 ?_
  refine lv_iload_n hx hb dX1_copyFrom_17 rfl (lv_at hl 0 rfl) ?_
  refine va_aldq hx hb hK hP 4 1 rfl rfl (zz_in (by decide)) dX1_copyFrom_18 ?_
  refine W.eq (g2 := F0 m 19 ls [.null, .int 6, .ref h2]) rfl ?_
  refine va_astqN hx hb hK hP hD hS 2 0 rfl rfl (zz_in (by decide)) dX1_copyFrom_19 (fun H locs hP hD hS => ?_)
  obtain ⟨f_14, hP, hD⟩ : ∃ f_14 : Nat → Option Nat, va_P (dC, dI) vwCl [(h0, .inr (1, fs)), (h1, .inr (1, gs)), (h2, .inl (cP, 8, .inr (.inr (.inr (.inr f_14))))), (h3, .inr (4, js)), (h4, .inl (cQ, 8, .inr (.inr (.inr (.inr (fun _ => none)))))), (h5, .inr (4, ks))] H ∧ va_D A [(h0, .inr (1, fs)), (h1, .inr (1, gs)), (h2, .inl (cP, 8, .inr (.inr (.inr (.inr f_14))))), (h3, .inr (4, js)), (h4, .inl (cQ, 8, .inr (.inr (.inr (.inr (fun _ => none)))))), (h5, .inr (4, ks))] := ⟨_, hP, hD⟩
  refine lv_iinc (v := 7) (lv' := [(2, .int 7), (0, .ref h0), (1, .ref h1)]) hx hb dX1_copyFrom_20 hl (k := 0) rfl (by decide) (by decide) rfl (fun ls hl => ?_)
  refine lv_goto (tgt := 2) hx hb dX1_copyFrom_23 (by decide) ?_
  refine lv_iload_n hx hb dX1_copyFrom_2 rfl (lv_at hl 0 rfl) ?_
  refine lv_bipush (v := 8) hx hb dX1_copyFrom_3 (by decide) ?_
  refine lv_icmp_ge (tgt := 26) hx hb dX1_copyFrom_5 (by decide) (fun c_15 => absurd c_15 (by decide)) (fun c_15 => ?_)
  refine lv_aload_n hx hb dX1_copyFrom_8 rfl (lv_at hl 1 rfl) ?_
  refine va_get (D := (dC, dI)) (ci := 1) (v := .ref h2) (C := RX1) (T := TX1) (N := 3) hx hb hts hiX1 hown hK hP 0 rfl rfl 0 (by decide) (hts (.fieldLink RX1 13 "CakePapers$Desk" "papers" "[LCakePapers$Paper;") (by decide +kernel)) (fun _ h9 => h9) e_fs_0 dX1_copyFrom_9 ?_
  refine lv_iload_n hx hb dX1_copyFrom_12 rfl (lv_at hl 0 rfl) ?_
  refine lv_aload_n hx hb dX1_copyFrom_13 rfl (lv_at hl 2 rfl) ?_
  refine va_get (D := (dC, dI)) (ci := 1) (v := .ref h4) (C := RX1) (T := TX1) (N := 3) hx hb hts hiX1 hown hK hP 1 rfl rfl 0 (by decide) (hts (.fieldLink RX1 13 "CakePapers$Desk" "papers" "[LCakePapers$Paper;") (by decide +kernel)) (fun _ h9 => h9) e_gs_0 dX1_copyFrom_14 ?_
  refine lv_iload_n hx hb dX1_copyFrom_17 rfl (lv_at hl 0 rfl) ?_
  refine va_aldq hx hb hK hP 4 1 rfl rfl (zz_in (by decide)) dX1_copyFrom_18 ?_
  refine W.eq (g2 := F0 m 19 ls [.null, .int 7, .ref h2]) rfl ?_
  refine va_astqN hx hb hK hP hD hS 2 0 rfl rfl (zz_in (by decide)) dX1_copyFrom_19 (fun H locs hP hD hS => ?_)
  obtain ⟨f_16, hP, hD⟩ : ∃ f_16 : Nat → Option Nat, va_P (dC, dI) vwCl [(h0, .inr (1, fs)), (h1, .inr (1, gs)), (h2, .inl (cP, 8, .inr (.inr (.inr (.inr f_16))))), (h3, .inr (4, js)), (h4, .inl (cQ, 8, .inr (.inr (.inr (.inr (fun _ => none)))))), (h5, .inr (4, ks))] H ∧ va_D A [(h0, .inr (1, fs)), (h1, .inr (1, gs)), (h2, .inl (cP, 8, .inr (.inr (.inr (.inr f_16))))), (h3, .inr (4, js)), (h4, .inl (cQ, 8, .inr (.inr (.inr (.inr (fun _ => none)))))), (h5, .inr (4, ks))] := ⟨_, hP, hD⟩
  refine lv_iinc (v := 8) (lv' := [(2, .int 8), (0, .ref h0), (1, .ref h1)]) hx hb dX1_copyFrom_20 hl (k := 0) rfl (by decide) (by decide) rfl (fun ls hl => ?_)
  refine lv_goto (tgt := 2) hx hb dX1_copyFrom_23 (by decide) ?_
  refine lv_iload_n hx hb dX1_copyFrom_2 rfl (lv_at hl 0 rfl) ?_
  refine lv_bipush (v := 8) hx hb dX1_copyFrom_3 (by decide) ?_
  refine lv_icmp_ge (tgt := 26) hx hb dX1_copyFrom_5 (by decide) (fun c_17 => ?_) (fun c_17 => absurd c_17 (by decide))
  refine lv_aload_n hx hb dX1_copyFrom_26 rfl (lv_at hl 1 rfl) ?_
  refine lv_aload_n hx hb dX1_copyFrom_27 rfl (lv_at hl 2 rfl) ?_
  refine va_get (D := (dC, dI)) (ci := 1) (v := .int 0) (C := RX1) (T := TX1) (N := 3) hx hb hts hiX1 hown hK hP 1 rfl rfl 2 (by decide) (hts (.fieldLink RX1 24 "CakePapers$Desk" "count" "I") (by decide +kernel)) (fun _ h9 => h9) e_gs_2 dX1_copyFrom_28 ?_
  refine va_put (D := (dC, dI)) (ci := 1) (v := .int 0) (ty := .int) (C := RX1) (T := TX1) (N := 3) hx hb hts hiX1 tyX1 tyX1_ok nmX1 hown hK hP hD hS 0 rfl rfl 2 (by decide) (hts (.fieldLink RX1 24 "CakePapers$Desk" "count" "I") (by decide +kernel)) (fun _ h9 => h9) rfl (by decide +kernel) rfl rfl (by simp [hn_fs]) dX1_copyFrom_31 (fun H locs hP hD hS => ?_)
  have hP : va_P (dC, dI) vwCl [(h0, .inr (1, (List.set fs 2 (.int 0)))), (h1, .inr (1, gs)), (h2, .inl (cP, 8, .inr (.inr (.inr (.inr f_16))))), (h3, .inr (4, js)), (h4, .inl (cQ, 8, .inr (.inr (.inr (.inr (fun _ => none)))))), (h5, .inr (4, ks))] H := hP
  have hD : va_D A [(h0, .inr (1, (List.set fs 2 (.int 0)))), (h1, .inr (1, gs)), (h2, .inl (cP, 8, .inr (.inr (.inr (.inr f_16))))), (h3, .inr (4, js)), (h4, .inl (cQ, 8, .inr (.inr (.inr (.inr (fun _ => none)))))), (h5, .inr (4, ks))] := hD
  refine lv_aload_n hx hb dX1_copyFrom_34 rfl (lv_at hl 1 rfl) ?_
  refine va_get (D := (dC, dI)) (ci := 1) (v := .ref h3) (C := RX1) (T := TX1) (N := 3) hx hb hts hiX1 hown hK hP 0 rfl rfl 1 (by decide) (hts (.fieldLink RX1 20 "CakePapers$Desk" "joining" "LCakePapers$Joining;") (by decide +kernel)) (fun _ h9 => h9) (by simp [e_fs_1]) dX1_copyFrom_35 ?_
  refine lv_aload_n hx hb dX1_copyFrom_38 rfl (lv_at hl 2 rfl) ?_
  refine va_get (D := (dC, dI)) (ci := 1) (v := .ref h5) (C := RX1) (T := TX1) (N := 3) hx hb hts hiX1 hown hK hP 1 rfl rfl 1 (by decide) (hts (.fieldLink RX1 20 "CakePapers$Desk" "joining" "LCakePapers$Joining;") (by decide +kernel)) (fun _ h9 => h9) e_gs_1 dX1_copyFrom_39 ?_
  have hPc := hP.sub (ws' := [(h3, .inr (4, js)), (h5, .inr (4, ks))]) [3, 5] rfl
  have hDc := hD.sub (ws' := [(h3, .inr (4, js)), (h5, .inr (4, ks))]) [3, 5] (by decide) rfl
  have hKc := hK.sub (tys' := []) [] rfl
  have hFc := va_free (wc := [(h3, .inr (4, js)), (h5, .inr (4, ks))]) hD hS hA [3, 5] rfl
  refine va_callv (va_runV (As := [.ref h5]) (rest := []) ⟨hx, hb, hml, hown, hts⟩ (c_X4_copyFrom l dC dI H.size h3 h5 js hn_js ks hn_ks e_ks_0) (cwV 1 hts g_c_X1_copyFrom_c_X4_copyFrom_0 rfl rfl rfl (by decide +kernel) ⟨Nat.le_of_ble_eq_true rfl, Nat.le_of_ble_eq_true rfl⟩) ⟨fun a U g mk q => by obtain ⟨q0, q1, qP, qK, qD⟩ := q; exact ⟨q0, q1, qP, va_K.moved (u := U) (U := U.calling g mk a) (Vm.Alike.refl U.vm) qK, qD⟩, va_recv hKc hPc (ci := 4) (q0 := 0) rfl rfl, fun U hU hW => ⟨rfl, by rw [hU], by rw [hU]; exact hPc, va_K.moved hW.alike hKc, hDc.weaken (fun _ _ _ _ => trivial)⟩⟩ rfl rfl hl.1 rfl (lv_room (Nat.le_of_ble_eq_true rfl)) dX1_copyFrom_42 ⟨Nat.le_of_ble_eq_true rfl, Nat.le_of_ble_eq_true rfl⟩) hS (fun q _ h => hFc q h) hFc (fun u t H1 locs ht hvm hw hB hz1 hk1 hS => ?_)
  obtain ⟨hP1, hD1⟩ := hB
  rw [ht] at hP1
  obtain ⟨hP, hD⟩ := va_join (wr := [(h0, .inr (1, (List.set fs 2 (.int 0)))), (h1, .inr (1, gs)), (h2, .inl (cP, 8, .inr (.inr (.inr (.inr f_16))))), (h4, .inl (cQ, 8, .inr (.inr (.inr (.inr (fun _ => none))))))]) (w1 := [(h3, .inr (4, (List.set (List.set (List.set (List.set (List.set js 0 .null) 1 .null) 2 .null) 11 (.int 0)) 12 (.int 0)))), (h5, .inr (4, ks))]) hP hD [3, 5] [0, 1, 2, 4] rfl rfl (by decide) (by decide) hk1 hFc hP1 hD1
  generalize H1 = H at hP hS ⊢
  have hP : va_P (dC, dI) vwCl [(h0, .inr (1, (List.set fs 2 (.int 0)))), (h1, .inr (1, gs)), (h2, .inl (cP, 8, .inr (.inr (.inr (.inr f_16))))), (h4, .inl (cQ, 8, .inr (.inr (.inr (.inr (fun _ => none)))))), (h3, .inr (4, (List.set (List.set (List.set (List.set (List.set js 0 .null) 1 .null) 2 .null) 11 (.int 0)) 12 (.int 0)))), (h5, .inr (4, ks))] H := hP
  have hD : va_D A [(h0, .inr (1, (List.set fs 2 (.int 0)))), (h1, .inr (1, gs)), (h2, .inl (cP, 8, .inr (.inr (.inr (.inr f_16))))), (h4, .inl (cQ, 8, .inr (.inr (.inr (.inr (fun _ => none)))))), (h3, .inr (4, (List.set (List.set (List.set (List.set (List.set js 0 .null) 1 .null) 2 .null) 11 (.int 0)) 12 (.int 0)))), (h5, .inr (4, ks))] := hD
  refine W.widen (k := 0) (n := 0) (Nat.le_of_ble_eq_true rfl) (Nat.le_of_ble_eq_true rfl) ?_
  refine W.widen (k := 0) (n := 0) (Nat.le_of_ble_eq_true rfl) (Nat.le_of_ble_eq_true rfl) ?_
  have hP9 := hP.sub (ws' := [(h1, .inr (1, gs))]) [1] rfl
  have hD9 := hD.sub (ws' := [(h1, .inr (1, gs))]) [1] (by decide) rfl
  exact W.vret hx hb hr (fun t ht hW => ⟨⟨(), rfl, trivial, by rw [ht]; exact hP9, hD9⟩, hS.F ht⟩) hS.2.2 dX1_copyFrom_45
def u_c_X11_image : List Cond := .code yX11_image cX11_image 2 (some .int) :: ([.fieldLink RX11 47 "CakePapers" "boxes" "[LCakePapers$Desk;", .fieldLink RX11 39 "CakePapers" "desk" "LCakePapers$Desk;", .code yX1_copyFrom cX1_copyFrom 3 none, .fieldLink RX1 13 "CakePapers$Desk" "papers" "[LCakePapers$Paper;", .fieldLink RX1 24 "CakePapers$Desk" "count" "I", .fieldLink RX1 20 "CakePapers$Desk" "joining" "LCakePapers$Joining;", .code yX4_copyFrom cX4_copyFrom 3 none, .code yX4_isThere cX4_isThere 1 (some .boolean), .fieldLink RX4 38 "CakePapers$Joining" "base" "LCakePapers$Paper;", .methodLink RX4 55 yX4_isThere, .instanceMethod yX4_isThere, .selects RX4 yX4_isThere yX4_isThere, .initialized RX4, .code yX4_clear cX4_clear 1 none, .fieldLink RX4 42 "CakePapers$Joining" "one" "LCakePapers$Paper;", .fieldLink RX4 45 "CakePapers$Joining" "other" "LCakePapers$Paper;", .fieldLink RX4 52 "CakePapers$Joining" "steps" "I", .fieldLink RX4 48 "CakePapers$Joining" "quarrels" "I", .methodLink RX4 59 yX4_clear, .instanceMethod yX4_clear, .selects RX4 yX4_clear yX4_clear, .methodLink RX1 41 yX4_copyFrom, .instanceMethod yX4_copyFrom, .selects RX4 yX4_copyFrom yX4_copyFrom, .methodLink RX11 362 yX1_copyFrom, .instanceMethod yX1_copyFrom, .selects RX1 yX1_copyFrom yX1_copyFrom, .initialized RX1, .fieldLink RX11 43 "CakePapers$Desk" "count" "I"] ++ wsX110 ++ wsX10 ++ wsX40)
theorem iX11_c_X11_image : ∀ w ∈ wsX110, w ∈ u_c_X11_image := fun w h => List.mem_cons_of_mem _ (List.mem_append_left _ (List.mem_append_left _ (List.mem_append_right _ h)))
theorem iX1_c_X11_image : ∀ w ∈ wsX10, w ∈ u_c_X11_image := fun w h => List.mem_cons_of_mem _ (List.mem_append_left _ (List.mem_append_right _ h))
theorem iX4_c_X11_image : ∀ w ∈ wsX40, w ∈ u_c_X11_image := fun w h => List.mem_cons_of_mem _ (List.mem_append_right _ h)
set_option maxRecDepth 20000 in
theorem g_c_X11_image_c_X1_copyFrom_0 : GoodIn u_c_X11_image (wsV RX11 362 RX1 yX1_copyFrom u_c_X1_copyFrom) := goodIn_app (goodIn_of _ (by decide +kernel)) (goodIn_ca (goodIn_ca (goodIn_of (.code yX1_copyFrom cX1_copyFrom 3 none :: [.fieldLink RX1 13 "CakePapers$Desk" "papers" "[LCakePapers$Paper;", .fieldLink RX1 24 "CakePapers$Desk" "count" "I", .fieldLink RX1 20 "CakePapers$Desk" "joining" "LCakePapers$Joining;", .code yX4_copyFrom cX4_copyFrom 3 none, .code yX4_isThere cX4_isThere 1 (some .boolean), .fieldLink RX4 38 "CakePapers$Joining" "base" "LCakePapers$Paper;", .methodLink RX4 55 yX4_isThere, .instanceMethod yX4_isThere, .selects RX4 yX4_isThere yX4_isThere, .initialized RX4, .code yX4_clear cX4_clear 1 none, .fieldLink RX4 42 "CakePapers$Joining" "one" "LCakePapers$Paper;", .fieldLink RX4 45 "CakePapers$Joining" "other" "LCakePapers$Paper;", .fieldLink RX4 52 "CakePapers$Joining" "steps" "I", .fieldLink RX4 48 "CakePapers$Joining" "quarrels" "I", .methodLink RX4 59 yX4_clear, .instanceMethod yX4_clear, .selects RX4 yX4_clear yX4_clear, .methodLink RX1 41 yX4_copyFrom, .instanceMethod yX4_copyFrom, .selects RX4 yX4_copyFrom yX4_copyFrom]) (by decide +kernel)) (goodIn_sub iX1_c_X11_image zgX1)) (goodIn_sub iX4_c_X11_image zgX4))
set_option maxHeartbeats 1000000 in
set_option maxRecDepth 100000 in
theorem c_X11_image (l : Launch) (dC : Nat → ClassId) (dI : Nat → Nat → Nat) (sz : Nat) (h0 h1 h2 a0 j0 b0 a1 j1 b1 a2 j2 b2 a3 j3 : Nat) (cB cQ cP0 cP1 cP2 : ClassId) (f0 : Nat → Option Nat) (f1 : Nat → Option Nat) (f2 : Nat → Option Nat) (fs : List Value) (hn_fs : fs.length = 16) (e_fs_5 : fs[5]? = some (.ref h1)) (e_fs_6 : fs[6]? = some (.ref h2)) (gs : List Value) (hn_gs : gs.length = 3) (e_gs_0 : gs[0]? = some (.ref a0)) (e_gs_1 : gs[1]? = some (.ref j0)) (e_gs_2 : gs[2]? = some (.int 0)) (ks : List Value) (hn_ks : ks.length = 13) (e_ks_0 : ks[0]? = some .null) (bs0 : List Value) (hn_bs0 : bs0.length = 3) (e_bs0_0 : bs0[0]? = some (.ref a1)) (e_bs0_1 : bs0[1]? = some (.ref j1)) (js0 : List Value) (hn_js0 : js0.length = 13) (bs1 : List Value) (hn_bs1 : bs1.length = 3) (e_bs1_0 : bs1[0]? = some (.ref a2)) (e_bs1_1 : bs1[1]? = some (.ref j2)) (js1 : List Value) (hn_js1 : js1.length = 13) (bs2 : List Value) (hn_bs2 : bs2.length = 3) (e_bs2_0 : bs2[0]? = some (.ref a3)) (e_bs2_1 : bs2[1]? = some (.ref j3)) (js2 : List Value) (hn_js2 : js2.length = 13) (p0 : Int32) : Met l yX11_image u_c_X11_image ({ frames := 3, cells := 0, slots := 0, locals := 64 }) (va_Pc [.ref h0, .int p0] (fun U => U.heap.size = sz ∧ va_P (dC, dI) vwCl [(h0, .inr (11, fs)), (h1, .inr (1, gs)), (h2, .inl (cB, 3, .inr (.inr (.inr (.inr (va_up (va_up (va_up (fun _ => none) 0 (some b0)) 1 (some b1)) 2 (some b2))))))), (a0, .inl (cQ, 8, .inr (.inr (.inr (.inr (fun _ => none)))))), (j0, .inr (4, ks)), (b0, .inr (1, bs0)), (a1, .inl (cP0, 8, .inr (.inr (.inr (.inr f0))))), (j1, .inr (4, js0)), (b1, .inr (1, bs1)), (a2, .inl (cP1, 8, .inr (.inr (.inr (.inr f1))))), (j2, .inr (4, js1)), (b2, .inr (1, bs2)), (a3, .inl (cP2, 8, .inr (.inr (.inr (.inr f2))))), (j3, .inr (4, js2))] U.heap ∧ va_K (dC, dI) vwCl [(cB, (.object RX1)), (cQ, (.object RX6)), (cP0, (.object RX6)), (cP1, (.object RX6)), (cP2, (.object RX6))] U ∧ va_D (fun _ => True) [(h0, .inr (11, fs)), (h1, .inr (1, gs)), (h2, .inl (cB, 3, .inr (.inr (.inr (.inr (va_up (va_up (va_up (fun _ => none) 0 (some b0)) 1 (some b1)) 2 (some b2))))))), (a0, .inl (cQ, 8, .inr (.inr (.inr (.inr (fun _ => none)))))), (j0, .inr (4, ks)), (b0, .inr (1, bs0)), (a1, .inl (cP0, 8, .inr (.inr (.inr (.inr f0))))), (j1, .inr (4, js0)), (b1, .inr (1, bs1)), (a2, .inl (cP1, 8, .inr (.inr (.inr (.inr f1))))), (j2, .inr (4, js1)), (b2, .inr (1, bs2)), (a3, .inl (cP2, 8, .inr (.inr (.inr (.inr f2))))), (j3, .inr (4, js2))])) (va_Qi (fun (r : Int32) (_ : Unit) => r = zz_im p0) (fun _ _ => True) (va_A [(h0, .inr (11, fs)), (h1, .inr (1, gs)), (h2, .inl (cB, 3, .inr (.inr (.inr (.inr (va_up (va_up (va_up (fun _ => none) 0 (some b0)) 1 (some b1)) 2 (some b2))))))), (a0, .inl (cQ, 8, .inr (.inr (.inr (.inr (fun _ => none)))))), (j0, .inr (4, ks)), (b0, .inr (1, bs0)), (a1, .inl (cP0, 8, .inr (.inr (.inr (.inr f0))))), (j1, .inr (4, js0)), (b1, .inr (1, bs1)), (a2, .inl (cP1, 8, .inr (.inr (.inr (.inr f1))))), (j2, .inr (4, js1)), (b2, .inr (1, bs2)), (a3, .inl (cP2, 8, .inr (.inr (.inr (.inr f2))))), (j3, .inr (4, js2))] sz)) 0 0 (va_A [(h0, .inr (11, fs)), (h1, .inr (1, gs)), (h2, .inl (cB, 3, .inr (.inr (.inr (.inr (va_up (va_up (va_up (fun _ => none) 0 (some b0)) 1 (some b1)) 2 (some b2))))))), (a0, .inl (cQ, 8, .inr (.inr (.inr (.inr (fun _ => none)))))), (j0, .inr (4, ks)), (b0, .inr (1, bs0)), (a1, .inl (cP0, 8, .inr (.inr (.inr (.inr f0))))), (j1, .inr (4, js0)), (b1, .inr (1, bs1)), (a2, .inl (cP1, 8, .inr (.inr (.inr (.inr f1))))), (j2, .inr (4, js1)), (b2, .inr (1, bs2)), (a3, .inl (cP2, 8, .inr (.inr (.inr (.inr f2))))), (j3, .inr (4, js2))] sz) := by
  refine Met.ofW (cc := cX11_image) (maxL := 2) (ret := (some .int)) (by decide) rfl ?_
  intro p e s m args below meth c s₁ B hml hv
  obtain ⟨rfl, hsz, hP, hK, hD0⟩ := hv
  have hx := B.exec
  have hb := B.bytes
  have hr := B.returns
  have hts := atoms_spec (ws := u_c_X11_image) B.pre
  have hown : s.vm.findClass RX11 = some m.cls := findClass_of_methodNamed B.named
  have hlocks := B.notSynchronized
  have hiX11 := iX11_c_X11_image
  have hiX1 := iX1_c_X11_image
  have hiX4 := iX4_c_X11_image
  subst hsz
  have hD := hD0.self (sz := s.heap.size)
  generalize hAe : va_A [(h0, .inr (11, fs)), (h1, .inr (1, gs)), (h2, .inl (cB, 3, .inr (.inr (.inr (.inr (va_up (va_up (va_up (fun _ => none) 0 (some b0)) 1 (some b1)) 2 (some b2))))))), (a0, .inl (cQ, 8, .inr (.inr (.inr (.inr (fun _ => none)))))), (j0, .inr (4, ks)), (b0, .inr (1, bs0)), (a1, .inl (cP0, 8, .inr (.inr (.inr (.inr f0))))), (j1, .inr (4, js0)), (b1, .inr (1, bs1)), (a2, .inl (cP1, 8, .inr (.inr (.inr (.inr f1))))), (j2, .inr (4, js1)), (b2, .inr (1, bs2)), (a3, .inl (cP2, 8, .inr (.inr (.inr (.inr f2))))), (j3, .inr (4, js2))] s.heap.size = A at hD ⊢
  have hA : ∀ q : Nat, s.heap.size ≤ q → A q := fun q h => by rw [← hAe]; exact Or.inr h
  have hS : va_S A s.heap s.heap [] := va_S.rf
  obtain ⟨H, hH⟩ : ∃ H : Heap, H = s.heap := ⟨_, rfl⟩
  have hP : va_P (dC, dI) vwCl [(h0, .inr (11, fs)), (h1, .inr (1, gs)), (h2, .inl (cB, 3, .inr (.inr (.inr (.inr (va_up (va_up (va_up (fun _ => none) 0 (some b0)) 1 (some b1)) 2 (some b2))))))), (a0, .inl (cQ, 8, .inr (.inr (.inr (.inr (fun _ => none)))))), (j0, .inr (4, ks)), (b0, .inr (1, bs0)), (a1, .inl (cP0, 8, .inr (.inr (.inr (.inr f0))))), (j1, .inr (4, js0)), (b1, .inr (1, bs1)), (a2, .inl (cP1, 8, .inr (.inr (.inr (.inr f1))))), (j2, .inr (4, js1)), (b2, .inr (1, bs2)), (a3, .inl (cP2, 8, .inr (.inr (.inr (.inr f2))))), (j3, .inr (4, js2))] H := by rw [hH]; exact hP
  have hS : va_S A s.heap H [] := by rw [hH]; exact hS
  have hl := lv_entry ([.ref h0, .int p0]) (n := 2) (Nat.le_of_ble_eq_true rfl)
  rw [lg_entry_eq]
  generalize (lg_sl ([.ref h0, .int p0]) ++ List.replicate (2 - (lg_sl ([.ref h0, .int p0])).length) Slot.unset).toArray = ls at hl ⊢
  have hl : lv_has ls 2 [(0, .ref h0), (1, .int p0)] := hl
  suffices h9 : W p l e (headSpec u_c_X11_image _).room s m _ below meth c H [] 0 0 _ (F0 m 0 ls []) by rw [hH] at h9; exact h9
  refine lv_iload_n hx hb dX11_image_0 rfl (lv_at hl 1 rfl) ?_
  refine lv_if_lt (tgt := 9) hx hb dX11_image_1 (by decide) (fun c_1 => ?_) (fun c_1 => ?_)
  · refine lv_iconst (v := (-1)) hx hb dX11_image_9 (by decide) ?_
    refine W.widen (k := 0) (n := 0) (Nat.le_of_ble_eq_true rfl) (Nat.le_of_ble_eq_true rfl) ?_
    exact W.iret (v := (-1)) hx hb hr (fun t ht hW => ⟨⟨(-1), (), rfl, (by unfold zz_im; rw [if_pos c_1]), trivial⟩, hS.F ht⟩) hS.2.2 dX11_image_10
  · refine lv_iload_n hx hb dX11_image_4 rfl (lv_at hl 1 rfl) ?_
    refine lv_iconst (v := 3) hx hb dX11_image_5 (by decide) ?_
    refine lv_icmp_lt (tgt := 11) hx hb dX11_image_6 (by decide) (fun c_2 => ?_) (fun c_2 => ?_)
    · rcases zz_three c_1 c_2 with h_b | h_b | h_b
      · subst h_b
        refine lv_aload_n hx hb dX11_image_11 rfl (lv_at hl 0 rfl) ?_
        refine va_get (D := (dC, dI)) (ci := 11) (v := .ref h2) (C := RX11) (T := TX11) (N := 16) hx hb hts hiX11 hown hK hP 0 rfl rfl 6 (by decide) (hts (.fieldLink RX11 47 "CakePapers" "boxes" "[LCakePapers$Desk;") (by decide +kernel)) (fun _ h9 => h9) e_fs_6 dX11_image_12 ?_
        refine lv_iload_n hx hb dX11_image_15 rfl (lv_at hl 1 rfl) ?_
        refine va_aldq hx hb hK hP 2 0 rfl rfl (zz_in (by decide)) dX11_image_16 ?_
        refine W.eq (g2 := F0 m 17 ls [.ref b0]) rfl ?_
        refine lv_aload_n hx hb dX11_image_17 rfl (lv_at hl 0 rfl) ?_
        refine va_get (D := (dC, dI)) (ci := 11) (v := .ref h1) (C := RX11) (T := TX11) (N := 16) hx hb hts hiX11 hown hK hP 0 rfl rfl 5 (by decide) (hts (.fieldLink RX11 39 "CakePapers" "desk" "LCakePapers$Desk;") (by decide +kernel)) (fun _ h9 => h9) e_fs_5 dX11_image_18 ?_
        have hPc := hP.sub (ws' := [(b0, .inr (1, bs0)), (h1, .inr (1, gs)), (a1, .inl (cP0, 8, .inr (.inr (.inr (.inr f0))))), (j1, .inr (4, js0)), (a0, .inl (cQ, 8, .inr (.inr (.inr (.inr (fun _ => none)))))), (j0, .inr (4, ks))]) [5, 1, 6, 7, 3, 4] rfl
        have hDc := hD.sub (ws' := [(b0, .inr (1, bs0)), (h1, .inr (1, gs)), (a1, .inl (cP0, 8, .inr (.inr (.inr (.inr f0))))), (j1, .inr (4, js0)), (a0, .inl (cQ, 8, .inr (.inr (.inr (.inr (fun _ => none)))))), (j0, .inr (4, ks))]) [5, 1, 6, 7, 3, 4] (by decide) rfl
        have hKc := hK.sub (tys' := [(cP0, (.object RX6)), (cQ, (.object RX6))]) [2, 1] rfl
        have hFc := va_free (wc := [(b0, .inr (1, bs0)), (h1, .inr (1, gs)), (a1, .inl (cP0, 8, .inr (.inr (.inr (.inr f0))))), (j1, .inr (4, js0)), (a0, .inl (cQ, 8, .inr (.inr (.inr (.inr (fun _ => none)))))), (j0, .inr (4, ks))]) hD hS hA [5, 1, 6, 7, 3, 4] rfl
        refine va_callv (va_runV (As := [.ref h1]) (rest := []) ⟨hx, hb, hml, hown, hts⟩ (c_X1_copyFrom l dC dI H.size b0 h1 a1 j1 a0 j0 cP0 cQ f0 bs0 hn_bs0 e_bs0_0 e_bs0_1 gs hn_gs e_gs_0 e_gs_1 e_gs_2 js0 hn_js0 ks hn_ks e_ks_0) (cwV 1 hts g_c_X11_image_c_X1_copyFrom_0 rfl rfl rfl (by decide +kernel) ⟨Nat.le_of_ble_eq_true rfl, Nat.le_of_ble_eq_true rfl⟩) ⟨fun a U g mk q => by obtain ⟨q0, q1, qP, qK, qD⟩ := q; exact ⟨q0, q1, qP, va_K.moved (u := U) (U := U.calling g mk a) (Vm.Alike.refl U.vm) qK, qD⟩, va_recv hKc hPc (ci := 1) (q0 := 0) rfl rfl, fun U hU hW => ⟨rfl, by rw [hU], by rw [hU]; exact hPc, va_K.moved hW.alike hKc, hDc.weaken (fun _ _ _ _ => trivial)⟩⟩ rfl rfl hl.1 rfl (lv_room (Nat.le_of_ble_eq_true rfl)) dX11_image_21 ⟨Nat.le_of_ble_eq_true rfl, Nat.le_of_ble_eq_true rfl⟩) hS (fun q _ h => hFc q h) hFc (fun u t H1 locs ht hvm hw hB hz1 hk1 hS => ?_)
        obtain ⟨hP1, hD1⟩ := hB
        rw [ht] at hP1
        obtain ⟨hP, hD⟩ := va_join (wr := [(h0, .inr (11, fs)), (h2, .inl (cB, 3, .inr (.inr (.inr (.inr (va_up (va_up (va_up (fun _ => none) 0 (some b0)) 1 (some b1)) 2 (some b2))))))), (b1, .inr (1, bs1)), (a2, .inl (cP1, 8, .inr (.inr (.inr (.inr f1))))), (j2, .inr (4, js1)), (b2, .inr (1, bs2)), (a3, .inl (cP2, 8, .inr (.inr (.inr (.inr f2))))), (j3, .inr (4, js2))]) (w1 := [(h1, .inr (1, gs))]) hP hD [5, 1, 6, 7, 3, 4] [0, 2, 8, 9, 10, 11, 12, 13] rfl rfl (by decide) (by decide) hk1 hFc hP1 hD1
        generalize H1 = H at hP hS ⊢
        have hP : va_P (dC, dI) vwCl [(h0, .inr (11, fs)), (h2, .inl (cB, 3, .inr (.inr (.inr (.inr (va_up (va_up (va_up (fun _ => none) 0 (some b0)) 1 (some b1)) 2 (some b2))))))), (b1, .inr (1, bs1)), (a2, .inl (cP1, 8, .inr (.inr (.inr (.inr f1))))), (j2, .inr (4, js1)), (b2, .inr (1, bs2)), (a3, .inl (cP2, 8, .inr (.inr (.inr (.inr f2))))), (j3, .inr (4, js2)), (h1, .inr (1, gs))] H := hP
        have hD : va_D A [(h0, .inr (11, fs)), (h2, .inl (cB, 3, .inr (.inr (.inr (.inr (va_up (va_up (va_up (fun _ => none) 0 (some b0)) 1 (some b1)) 2 (some b2))))))), (b1, .inr (1, bs1)), (a2, .inl (cP1, 8, .inr (.inr (.inr (.inr f1))))), (j2, .inr (4, js1)), (b2, .inr (1, bs2)), (a3, .inl (cP2, 8, .inr (.inr (.inr (.inr f2))))), (j3, .inr (4, js2)), (h1, .inr (1, gs))] := hD
        refine W.widen (k := 0) (n := 0) (Nat.le_of_ble_eq_true rfl) (Nat.le_of_ble_eq_true rfl) ?_
        refine lv_aload_n hx hb dX11_image_24 rfl (lv_at hl 0 rfl) ?_
        refine va_get (D := (dC, dI)) (ci := 11) (v := .ref h1) (C := RX11) (T := TX11) (N := 16) hx hb hts hiX11 hown hK hP 0 rfl rfl 5 (by decide) (hts (.fieldLink RX11 39 "CakePapers" "desk" "LCakePapers$Desk;") (by decide +kernel)) (fun _ h9 => h9) e_fs_5 dX11_image_25 ?_
        refine va_get (D := (dC, dI)) (ci := 1) (v := .int 0) (C := RX1) (T := TX1) (N := 3) hx hb hts hiX1 hown hK hP 8 rfl rfl 2 (by decide) (hts (.fieldLink RX11 43 "CakePapers$Desk" "count" "I") (by decide +kernel)) (fun _ h9 => h9) e_gs_2 dX11_image_28 ?_
        refine W.widen (k := 0) (n := 0) (Nat.le_of_ble_eq_true rfl) (Nat.le_of_ble_eq_true rfl) ?_
        exact W.iret (v := 0) hx hb hr (fun t ht hW => ⟨⟨0, (), rfl, (by decide), trivial⟩, hS.F ht⟩) hS.2.2 dX11_image_31
      · subst h_b
        refine lv_aload_n hx hb dX11_image_11 rfl (lv_at hl 0 rfl) ?_
        refine va_get (D := (dC, dI)) (ci := 11) (v := .ref h2) (C := RX11) (T := TX11) (N := 16) hx hb hts hiX11 hown hK hP 0 rfl rfl 6 (by decide) (hts (.fieldLink RX11 47 "CakePapers" "boxes" "[LCakePapers$Desk;") (by decide +kernel)) (fun _ h9 => h9) e_fs_6 dX11_image_12 ?_
        refine lv_iload_n hx hb dX11_image_15 rfl (lv_at hl 1 rfl) ?_
        refine va_aldq hx hb hK hP 2 0 rfl rfl (zz_in (by decide)) dX11_image_16 ?_
        refine W.eq (g2 := F0 m 17 ls [.ref b1]) rfl ?_
        refine lv_aload_n hx hb dX11_image_17 rfl (lv_at hl 0 rfl) ?_
        refine va_get (D := (dC, dI)) (ci := 11) (v := .ref h1) (C := RX11) (T := TX11) (N := 16) hx hb hts hiX11 hown hK hP 0 rfl rfl 5 (by decide) (hts (.fieldLink RX11 39 "CakePapers" "desk" "LCakePapers$Desk;") (by decide +kernel)) (fun _ h9 => h9) e_fs_5 dX11_image_18 ?_
        have hPc := hP.sub (ws' := [(b1, .inr (1, bs1)), (h1, .inr (1, gs)), (a2, .inl (cP1, 8, .inr (.inr (.inr (.inr f1))))), (j2, .inr (4, js1)), (a0, .inl (cQ, 8, .inr (.inr (.inr (.inr (fun _ => none)))))), (j0, .inr (4, ks))]) [8, 1, 9, 10, 3, 4] rfl
        have hDc := hD.sub (ws' := [(b1, .inr (1, bs1)), (h1, .inr (1, gs)), (a2, .inl (cP1, 8, .inr (.inr (.inr (.inr f1))))), (j2, .inr (4, js1)), (a0, .inl (cQ, 8, .inr (.inr (.inr (.inr (fun _ => none)))))), (j0, .inr (4, ks))]) [8, 1, 9, 10, 3, 4] (by decide) rfl
        have hKc := hK.sub (tys' := [(cP1, (.object RX6)), (cQ, (.object RX6))]) [3, 1] rfl
        have hFc := va_free (wc := [(b1, .inr (1, bs1)), (h1, .inr (1, gs)), (a2, .inl (cP1, 8, .inr (.inr (.inr (.inr f1))))), (j2, .inr (4, js1)), (a0, .inl (cQ, 8, .inr (.inr (.inr (.inr (fun _ => none)))))), (j0, .inr (4, ks))]) hD hS hA [8, 1, 9, 10, 3, 4] rfl
        refine va_callv (va_runV (As := [.ref h1]) (rest := []) ⟨hx, hb, hml, hown, hts⟩ (c_X1_copyFrom l dC dI H.size b1 h1 a2 j2 a0 j0 cP1 cQ f1 bs1 hn_bs1 e_bs1_0 e_bs1_1 gs hn_gs e_gs_0 e_gs_1 e_gs_2 js1 hn_js1 ks hn_ks e_ks_0) (cwV 1 hts g_c_X11_image_c_X1_copyFrom_0 rfl rfl rfl (by decide +kernel) ⟨Nat.le_of_ble_eq_true rfl, Nat.le_of_ble_eq_true rfl⟩) ⟨fun a U g mk q => by obtain ⟨q0, q1, qP, qK, qD⟩ := q; exact ⟨q0, q1, qP, va_K.moved (u := U) (U := U.calling g mk a) (Vm.Alike.refl U.vm) qK, qD⟩, va_recv hKc hPc (ci := 1) (q0 := 0) rfl rfl, fun U hU hW => ⟨rfl, by rw [hU], by rw [hU]; exact hPc, va_K.moved hW.alike hKc, hDc.weaken (fun _ _ _ _ => trivial)⟩⟩ rfl rfl hl.1 rfl (lv_room (Nat.le_of_ble_eq_true rfl)) dX11_image_21 ⟨Nat.le_of_ble_eq_true rfl, Nat.le_of_ble_eq_true rfl⟩) hS (fun q _ h => hFc q h) hFc (fun u t H1 locs ht hvm hw hB hz1 hk1 hS => ?_)
        obtain ⟨hP1, hD1⟩ := hB
        rw [ht] at hP1
        obtain ⟨hP, hD⟩ := va_join (wr := [(h0, .inr (11, fs)), (h2, .inl (cB, 3, .inr (.inr (.inr (.inr (va_up (va_up (va_up (fun _ => none) 0 (some b0)) 1 (some b1)) 2 (some b2))))))), (b0, .inr (1, bs0)), (a1, .inl (cP0, 8, .inr (.inr (.inr (.inr f0))))), (j1, .inr (4, js0)), (b2, .inr (1, bs2)), (a3, .inl (cP2, 8, .inr (.inr (.inr (.inr f2))))), (j3, .inr (4, js2))]) (w1 := [(h1, .inr (1, gs))]) hP hD [8, 1, 9, 10, 3, 4] [0, 2, 5, 6, 7, 11, 12, 13] rfl rfl (by decide) (by decide) hk1 hFc hP1 hD1
        generalize H1 = H at hP hS ⊢
        have hP : va_P (dC, dI) vwCl [(h0, .inr (11, fs)), (h2, .inl (cB, 3, .inr (.inr (.inr (.inr (va_up (va_up (va_up (fun _ => none) 0 (some b0)) 1 (some b1)) 2 (some b2))))))), (b0, .inr (1, bs0)), (a1, .inl (cP0, 8, .inr (.inr (.inr (.inr f0))))), (j1, .inr (4, js0)), (b2, .inr (1, bs2)), (a3, .inl (cP2, 8, .inr (.inr (.inr (.inr f2))))), (j3, .inr (4, js2)), (h1, .inr (1, gs))] H := hP
        have hD : va_D A [(h0, .inr (11, fs)), (h2, .inl (cB, 3, .inr (.inr (.inr (.inr (va_up (va_up (va_up (fun _ => none) 0 (some b0)) 1 (some b1)) 2 (some b2))))))), (b0, .inr (1, bs0)), (a1, .inl (cP0, 8, .inr (.inr (.inr (.inr f0))))), (j1, .inr (4, js0)), (b2, .inr (1, bs2)), (a3, .inl (cP2, 8, .inr (.inr (.inr (.inr f2))))), (j3, .inr (4, js2)), (h1, .inr (1, gs))] := hD
        refine W.widen (k := 0) (n := 0) (Nat.le_of_ble_eq_true rfl) (Nat.le_of_ble_eq_true rfl) ?_
        refine lv_aload_n hx hb dX11_image_24 rfl (lv_at hl 0 rfl) ?_
        refine va_get (D := (dC, dI)) (ci := 11) (v := .ref h1) (C := RX11) (T := TX11) (N := 16) hx hb hts hiX11 hown hK hP 0 rfl rfl 5 (by decide) (hts (.fieldLink RX11 39 "CakePapers" "desk" "LCakePapers$Desk;") (by decide +kernel)) (fun _ h9 => h9) e_fs_5 dX11_image_25 ?_
        refine va_get (D := (dC, dI)) (ci := 1) (v := .int 0) (C := RX1) (T := TX1) (N := 3) hx hb hts hiX1 hown hK hP 8 rfl rfl 2 (by decide) (hts (.fieldLink RX11 43 "CakePapers$Desk" "count" "I") (by decide +kernel)) (fun _ h9 => h9) e_gs_2 dX11_image_28 ?_
        refine W.widen (k := 0) (n := 0) (Nat.le_of_ble_eq_true rfl) (Nat.le_of_ble_eq_true rfl) ?_
        exact W.iret (v := 0) hx hb hr (fun t ht hW => ⟨⟨0, (), rfl, (by decide), trivial⟩, hS.F ht⟩) hS.2.2 dX11_image_31
      · subst h_b
        refine lv_aload_n hx hb dX11_image_11 rfl (lv_at hl 0 rfl) ?_
        refine va_get (D := (dC, dI)) (ci := 11) (v := .ref h2) (C := RX11) (T := TX11) (N := 16) hx hb hts hiX11 hown hK hP 0 rfl rfl 6 (by decide) (hts (.fieldLink RX11 47 "CakePapers" "boxes" "[LCakePapers$Desk;") (by decide +kernel)) (fun _ h9 => h9) e_fs_6 dX11_image_12 ?_
        refine lv_iload_n hx hb dX11_image_15 rfl (lv_at hl 1 rfl) ?_
        refine va_aldq hx hb hK hP 2 0 rfl rfl (zz_in (by decide)) dX11_image_16 ?_
        refine W.eq (g2 := F0 m 17 ls [.ref b2]) rfl ?_
        refine lv_aload_n hx hb dX11_image_17 rfl (lv_at hl 0 rfl) ?_
        refine va_get (D := (dC, dI)) (ci := 11) (v := .ref h1) (C := RX11) (T := TX11) (N := 16) hx hb hts hiX11 hown hK hP 0 rfl rfl 5 (by decide) (hts (.fieldLink RX11 39 "CakePapers" "desk" "LCakePapers$Desk;") (by decide +kernel)) (fun _ h9 => h9) e_fs_5 dX11_image_18 ?_
        have hPc := hP.sub (ws' := [(b2, .inr (1, bs2)), (h1, .inr (1, gs)), (a3, .inl (cP2, 8, .inr (.inr (.inr (.inr f2))))), (j3, .inr (4, js2)), (a0, .inl (cQ, 8, .inr (.inr (.inr (.inr (fun _ => none)))))), (j0, .inr (4, ks))]) [11, 1, 12, 13, 3, 4] rfl
        have hDc := hD.sub (ws' := [(b2, .inr (1, bs2)), (h1, .inr (1, gs)), (a3, .inl (cP2, 8, .inr (.inr (.inr (.inr f2))))), (j3, .inr (4, js2)), (a0, .inl (cQ, 8, .inr (.inr (.inr (.inr (fun _ => none)))))), (j0, .inr (4, ks))]) [11, 1, 12, 13, 3, 4] (by decide) rfl
        have hKc := hK.sub (tys' := [(cP2, (.object RX6)), (cQ, (.object RX6))]) [4, 1] rfl
        have hFc := va_free (wc := [(b2, .inr (1, bs2)), (h1, .inr (1, gs)), (a3, .inl (cP2, 8, .inr (.inr (.inr (.inr f2))))), (j3, .inr (4, js2)), (a0, .inl (cQ, 8, .inr (.inr (.inr (.inr (fun _ => none)))))), (j0, .inr (4, ks))]) hD hS hA [11, 1, 12, 13, 3, 4] rfl
        refine va_callv (va_runV (As := [.ref h1]) (rest := []) ⟨hx, hb, hml, hown, hts⟩ (c_X1_copyFrom l dC dI H.size b2 h1 a3 j3 a0 j0 cP2 cQ f2 bs2 hn_bs2 e_bs2_0 e_bs2_1 gs hn_gs e_gs_0 e_gs_1 e_gs_2 js2 hn_js2 ks hn_ks e_ks_0) (cwV 1 hts g_c_X11_image_c_X1_copyFrom_0 rfl rfl rfl (by decide +kernel) ⟨Nat.le_of_ble_eq_true rfl, Nat.le_of_ble_eq_true rfl⟩) ⟨fun a U g mk q => by obtain ⟨q0, q1, qP, qK, qD⟩ := q; exact ⟨q0, q1, qP, va_K.moved (u := U) (U := U.calling g mk a) (Vm.Alike.refl U.vm) qK, qD⟩, va_recv hKc hPc (ci := 1) (q0 := 0) rfl rfl, fun U hU hW => ⟨rfl, by rw [hU], by rw [hU]; exact hPc, va_K.moved hW.alike hKc, hDc.weaken (fun _ _ _ _ => trivial)⟩⟩ rfl rfl hl.1 rfl (lv_room (Nat.le_of_ble_eq_true rfl)) dX11_image_21 ⟨Nat.le_of_ble_eq_true rfl, Nat.le_of_ble_eq_true rfl⟩) hS (fun q _ h => hFc q h) hFc (fun u t H1 locs ht hvm hw hB hz1 hk1 hS => ?_)
        obtain ⟨hP1, hD1⟩ := hB
        rw [ht] at hP1
        obtain ⟨hP, hD⟩ := va_join (wr := [(h0, .inr (11, fs)), (h2, .inl (cB, 3, .inr (.inr (.inr (.inr (va_up (va_up (va_up (fun _ => none) 0 (some b0)) 1 (some b1)) 2 (some b2))))))), (b0, .inr (1, bs0)), (a1, .inl (cP0, 8, .inr (.inr (.inr (.inr f0))))), (j1, .inr (4, js0)), (b1, .inr (1, bs1)), (a2, .inl (cP1, 8, .inr (.inr (.inr (.inr f1))))), (j2, .inr (4, js1))]) (w1 := [(h1, .inr (1, gs))]) hP hD [11, 1, 12, 13, 3, 4] [0, 2, 5, 6, 7, 8, 9, 10] rfl rfl (by decide) (by decide) hk1 hFc hP1 hD1
        generalize H1 = H at hP hS ⊢
        have hP : va_P (dC, dI) vwCl [(h0, .inr (11, fs)), (h2, .inl (cB, 3, .inr (.inr (.inr (.inr (va_up (va_up (va_up (fun _ => none) 0 (some b0)) 1 (some b1)) 2 (some b2))))))), (b0, .inr (1, bs0)), (a1, .inl (cP0, 8, .inr (.inr (.inr (.inr f0))))), (j1, .inr (4, js0)), (b1, .inr (1, bs1)), (a2, .inl (cP1, 8, .inr (.inr (.inr (.inr f1))))), (j2, .inr (4, js1)), (h1, .inr (1, gs))] H := hP
        have hD : va_D A [(h0, .inr (11, fs)), (h2, .inl (cB, 3, .inr (.inr (.inr (.inr (va_up (va_up (va_up (fun _ => none) 0 (some b0)) 1 (some b1)) 2 (some b2))))))), (b0, .inr (1, bs0)), (a1, .inl (cP0, 8, .inr (.inr (.inr (.inr f0))))), (j1, .inr (4, js0)), (b1, .inr (1, bs1)), (a2, .inl (cP1, 8, .inr (.inr (.inr (.inr f1))))), (j2, .inr (4, js1)), (h1, .inr (1, gs))] := hD
        refine W.widen (k := 0) (n := 0) (Nat.le_of_ble_eq_true rfl) (Nat.le_of_ble_eq_true rfl) ?_
        refine lv_aload_n hx hb dX11_image_24 rfl (lv_at hl 0 rfl) ?_
        refine va_get (D := (dC, dI)) (ci := 11) (v := .ref h1) (C := RX11) (T := TX11) (N := 16) hx hb hts hiX11 hown hK hP 0 rfl rfl 5 (by decide) (hts (.fieldLink RX11 39 "CakePapers" "desk" "LCakePapers$Desk;") (by decide +kernel)) (fun _ h9 => h9) e_fs_5 dX11_image_25 ?_
        refine va_get (D := (dC, dI)) (ci := 1) (v := .int 0) (C := RX1) (T := TX1) (N := 3) hx hb hts hiX1 hown hK hP 8 rfl rfl 2 (by decide) (hts (.fieldLink RX11 43 "CakePapers$Desk" "count" "I") (by decide +kernel)) (fun _ h9 => h9) e_gs_2 dX11_image_28 ?_
        refine W.widen (k := 0) (n := 0) (Nat.le_of_ble_eq_true rfl) (Nat.le_of_ble_eq_true rfl) ?_
        exact W.iret (v := 0) hx hb hr (fun t ht hW => ⟨⟨0, (), rfl, (by decide), trivial⟩, hS.F ht⟩) hS.2.2 dX11_image_31
    · refine lv_iconst (v := (-1)) hx hb dX11_image_9 (by decide) ?_
      refine W.widen (k := 0) (n := 0) (Nat.le_of_ble_eq_true rfl) (Nat.le_of_ble_eq_true rfl) ?_
      exact W.iret (v := (-1)) hx hb hr (fun t ht hW => ⟨⟨(-1), (), rfl, (by unfold zz_im; rw [if_neg c_1, if_neg c_2]), trivial⟩, hS.F ht⟩) hS.2.2 dX11_image_10
def u_c_X11_back : List Cond := .code yX11_back cX11_back 2 (some .int) :: ([.fieldLink RX11 47 "CakePapers" "boxes" "[LCakePapers$Desk;", .fieldLink RX11 43 "CakePapers$Desk" "count" "I"] ++ wsX110 ++ wsX10)
theorem iX11_c_X11_back : ∀ w ∈ wsX110, w ∈ u_c_X11_back := fun w h => List.mem_cons_of_mem _ (List.mem_append_left _ (List.mem_append_right _ h))
theorem iX1_c_X11_back : ∀ w ∈ wsX10, w ∈ u_c_X11_back := fun w h => List.mem_cons_of_mem _ (List.mem_append_right _ h)
set_option maxHeartbeats 1000000 in
set_option maxRecDepth 100000 in
theorem c_X11_back (l : Launch) (dC : Nat → ClassId) (dI : Nat → Nat → Nat) (sz : Nat) (h0 h2 b0 b1 b2 : Nat) (cB : ClassId) (fs : List Value) (hn_fs : fs.length = 16) (e_fs_6 : fs[6]? = some (.ref h2)) (bs0 : List Value) (hn_bs0 : bs0.length = 3) (e_bs0_2 : bs0[2]? = some (.int (-1))) (bs1 : List Value) (hn_bs1 : bs1.length = 3) (e_bs1_2 : bs1[2]? = some (.int (-1))) (bs2 : List Value) (hn_bs2 : bs2.length = 3) (e_bs2_2 : bs2[2]? = some (.int (-1))) (p0 : Int32) : Met l yX11_back u_c_X11_back ({ frames := 0, cells := 0, slots := 0, locals := 0 }) (va_Pc [.ref h0, .int p0] (fun U => U.heap.size = sz ∧ va_P (dC, dI) vwCl [(h0, .inr (11, fs)), (h2, .inl (cB, 3, .inr (.inr (.inr (.inr (va_up (va_up (va_up (fun _ => none) 0 (some b0)) 1 (some b1)) 2 (some b2))))))), (b0, .inr (1, bs0)), (b1, .inr (1, bs1)), (b2, .inr (1, bs2))] U.heap ∧ va_K (dC, dI) vwCl [(cB, (.object RX1))] U ∧ va_D (fun _ => True) [(h0, .inr (11, fs)), (h2, .inl (cB, 3, .inr (.inr (.inr (.inr (va_up (va_up (va_up (fun _ => none) 0 (some b0)) 1 (some b1)) 2 (some b2))))))), (b0, .inr (1, bs0)), (b1, .inr (1, bs1)), (b2, .inr (1, bs2))])) (va_Qi (fun (r : Int32) (_ : Unit) => r = (-1)) (fun _ _ => True) (va_A [(h0, .inr (11, fs)), (h2, .inl (cB, 3, .inr (.inr (.inr (.inr (va_up (va_up (va_up (fun _ => none) 0 (some b0)) 1 (some b1)) 2 (some b2))))))), (b0, .inr (1, bs0)), (b1, .inr (1, bs1)), (b2, .inr (1, bs2))] sz)) 0 0 (va_A [(h0, .inr (11, fs)), (h2, .inl (cB, 3, .inr (.inr (.inr (.inr (va_up (va_up (va_up (fun _ => none) 0 (some b0)) 1 (some b1)) 2 (some b2))))))), (b0, .inr (1, bs0)), (b1, .inr (1, bs1)), (b2, .inr (1, bs2))] sz) := by
  refine Met.ofW (cc := cX11_back) (maxL := 2) (ret := (some .int)) (by decide) rfl ?_
  intro p e s m args below meth c s₁ B hml hv
  obtain ⟨rfl, hsz, hP, hK, hD0⟩ := hv
  have hx := B.exec
  have hb := B.bytes
  have hr := B.returns
  have hts := atoms_spec (ws := u_c_X11_back) B.pre
  have hown : s.vm.findClass RX11 = some m.cls := findClass_of_methodNamed B.named
  have hlocks := B.notSynchronized
  have hiX11 := iX11_c_X11_back
  have hiX1 := iX1_c_X11_back
  subst hsz
  have hD := hD0.self (sz := s.heap.size)
  generalize hAe : va_A [(h0, .inr (11, fs)), (h2, .inl (cB, 3, .inr (.inr (.inr (.inr (va_up (va_up (va_up (fun _ => none) 0 (some b0)) 1 (some b1)) 2 (some b2))))))), (b0, .inr (1, bs0)), (b1, .inr (1, bs1)), (b2, .inr (1, bs2))] s.heap.size = A at hD ⊢
  have hA : ∀ q : Nat, s.heap.size ≤ q → A q := fun q h => by rw [← hAe]; exact Or.inr h
  have hS : va_S A s.heap s.heap [] := va_S.rf
  obtain ⟨H, hH⟩ : ∃ H : Heap, H = s.heap := ⟨_, rfl⟩
  have hP : va_P (dC, dI) vwCl [(h0, .inr (11, fs)), (h2, .inl (cB, 3, .inr (.inr (.inr (.inr (va_up (va_up (va_up (fun _ => none) 0 (some b0)) 1 (some b1)) 2 (some b2))))))), (b0, .inr (1, bs0)), (b1, .inr (1, bs1)), (b2, .inr (1, bs2))] H := by rw [hH]; exact hP
  have hS : va_S A s.heap H [] := by rw [hH]; exact hS
  have hl := lv_entry ([.ref h0, .int p0]) (n := 2) (Nat.le_of_ble_eq_true rfl)
  rw [lg_entry_eq]
  generalize (lg_sl ([.ref h0, .int p0]) ++ List.replicate (2 - (lg_sl ([.ref h0, .int p0])).length) Slot.unset).toArray = ls at hl ⊢
  have hl : lv_has ls 2 [(0, .ref h0), (1, .int p0)] := hl
  suffices h9 : W p l e (headSpec u_c_X11_back _).room s m _ below meth c H [] 0 0 _ (F0 m 0 ls []) by rw [hH] at h9; exact h9
  refine lv_iload_n hx hb dX11_back_0 rfl (lv_at hl 1 rfl) ?_
  refine lv_if_lt (tgt := 22) hx hb dX11_back_1 (by decide) (fun c_1 => ?_) (fun c_1 => ?_)
  · refine lv_iconst (v := (-1)) hx hb dX11_back_22 (by decide) ?_
    refine W.widen (k := 0) (n := 0) (Nat.le_of_ble_eq_true rfl) (Nat.le_of_ble_eq_true rfl) ?_
    exact W.iret (v := (-1)) hx hb hr (fun t ht hW => ⟨⟨(-1), (), rfl, rfl, trivial⟩, hS.F ht⟩) hS.2.2 dX11_back_23
  · refine lv_iload_n hx hb dX11_back_4 rfl (lv_at hl 1 rfl) ?_
    refine lv_iconst (v := 3) hx hb dX11_back_5 (by decide) ?_
    refine lv_icmp_ge (tgt := 22) hx hb dX11_back_6 (by decide) (fun c_2 => ?_) (fun c_2 => ?_)
    · refine lv_iconst (v := (-1)) hx hb dX11_back_22 (by decide) ?_
      refine W.widen (k := 0) (n := 0) (Nat.le_of_ble_eq_true rfl) (Nat.le_of_ble_eq_true rfl) ?_
      exact W.iret (v := (-1)) hx hb hr (fun t ht hW => ⟨⟨(-1), (), rfl, rfl, trivial⟩, hS.F ht⟩) hS.2.2 dX11_back_23
    · rcases zz_three c_1 (Int32.not_le.mp c_2) with h_b | h_b | h_b
      · subst h_b
        refine lv_aload_n hx hb dX11_back_9 rfl (lv_at hl 0 rfl) ?_
        refine va_get (D := (dC, dI)) (ci := 11) (v := .ref h2) (C := RX11) (T := TX11) (N := 16) hx hb hts hiX11 hown hK hP 0 rfl rfl 6 (by decide) (hts (.fieldLink RX11 47 "CakePapers" "boxes" "[LCakePapers$Desk;") (by decide +kernel)) (fun _ h9 => h9) e_fs_6 dX11_back_10 ?_
        refine lv_iload_n hx hb dX11_back_13 rfl (lv_at hl 1 rfl) ?_
        refine va_aldq hx hb hK hP 1 0 rfl rfl (zz_in (by decide)) dX11_back_14 ?_
        refine W.eq (g2 := F0 m 15 ls [.ref b0]) rfl ?_
        refine va_get (D := (dC, dI)) (ci := 1) (v := .int (-1)) (C := RX1) (T := TX1) (N := 3) hx hb hts hiX1 hown hK hP 2 rfl rfl 2 (by decide) (hts (.fieldLink RX11 43 "CakePapers$Desk" "count" "I") (by decide +kernel)) (fun _ h9 => h9) e_bs0_2 dX11_back_15 ?_
        refine lv_iconst (v := (-1)) hx hb dX11_back_18 (by decide) ?_
        refine lv_icmp_ne (tgt := 24) hx hb dX11_back_19 (by decide) (fun c_3 => absurd c_3 (by decide)) (fun c_3 => ?_)
        refine lv_iconst (v := (-1)) hx hb dX11_back_22 (by decide) ?_
        refine W.widen (k := 0) (n := 0) (Nat.le_of_ble_eq_true rfl) (Nat.le_of_ble_eq_true rfl) ?_
        exact W.iret (v := (-1)) hx hb hr (fun t ht hW => ⟨⟨(-1), (), rfl, rfl, trivial⟩, hS.F ht⟩) hS.2.2 dX11_back_23
      · subst h_b
        refine lv_aload_n hx hb dX11_back_9 rfl (lv_at hl 0 rfl) ?_
        refine va_get (D := (dC, dI)) (ci := 11) (v := .ref h2) (C := RX11) (T := TX11) (N := 16) hx hb hts hiX11 hown hK hP 0 rfl rfl 6 (by decide) (hts (.fieldLink RX11 47 "CakePapers" "boxes" "[LCakePapers$Desk;") (by decide +kernel)) (fun _ h9 => h9) e_fs_6 dX11_back_10 ?_
        refine lv_iload_n hx hb dX11_back_13 rfl (lv_at hl 1 rfl) ?_
        refine va_aldq hx hb hK hP 1 0 rfl rfl (zz_in (by decide)) dX11_back_14 ?_
        refine W.eq (g2 := F0 m 15 ls [.ref b1]) rfl ?_
        refine va_get (D := (dC, dI)) (ci := 1) (v := .int (-1)) (C := RX1) (T := TX1) (N := 3) hx hb hts hiX1 hown hK hP 3 rfl rfl 2 (by decide) (hts (.fieldLink RX11 43 "CakePapers$Desk" "count" "I") (by decide +kernel)) (fun _ h9 => h9) e_bs1_2 dX11_back_15 ?_
        refine lv_iconst (v := (-1)) hx hb dX11_back_18 (by decide) ?_
        refine lv_icmp_ne (tgt := 24) hx hb dX11_back_19 (by decide) (fun c_4 => absurd c_4 (by decide)) (fun c_4 => ?_)
        refine lv_iconst (v := (-1)) hx hb dX11_back_22 (by decide) ?_
        refine W.widen (k := 0) (n := 0) (Nat.le_of_ble_eq_true rfl) (Nat.le_of_ble_eq_true rfl) ?_
        exact W.iret (v := (-1)) hx hb hr (fun t ht hW => ⟨⟨(-1), (), rfl, rfl, trivial⟩, hS.F ht⟩) hS.2.2 dX11_back_23
      · subst h_b
        refine lv_aload_n hx hb dX11_back_9 rfl (lv_at hl 0 rfl) ?_
        refine va_get (D := (dC, dI)) (ci := 11) (v := .ref h2) (C := RX11) (T := TX11) (N := 16) hx hb hts hiX11 hown hK hP 0 rfl rfl 6 (by decide) (hts (.fieldLink RX11 47 "CakePapers" "boxes" "[LCakePapers$Desk;") (by decide +kernel)) (fun _ h9 => h9) e_fs_6 dX11_back_10 ?_
        refine lv_iload_n hx hb dX11_back_13 rfl (lv_at hl 1 rfl) ?_
        refine va_aldq hx hb hK hP 1 0 rfl rfl (zz_in (by decide)) dX11_back_14 ?_
        refine W.eq (g2 := F0 m 15 ls [.ref b2]) rfl ?_
        refine va_get (D := (dC, dI)) (ci := 1) (v := .int (-1)) (C := RX1) (T := TX1) (N := 3) hx hb hts hiX1 hown hK hP 4 rfl rfl 2 (by decide) (hts (.fieldLink RX11 43 "CakePapers$Desk" "count" "I") (by decide +kernel)) (fun _ h9 => h9) e_bs2_2 dX11_back_15 ?_
        refine lv_iconst (v := (-1)) hx hb dX11_back_18 (by decide) ?_
        refine lv_icmp_ne (tgt := 24) hx hb dX11_back_19 (by decide) (fun c_5 => absurd c_5 (by decide)) (fun c_5 => ?_)
        refine lv_iconst (v := (-1)) hx hb dX11_back_22 (by decide) ?_
        refine W.widen (k := 0) (n := 0) (Nat.le_of_ble_eq_true rfl) (Nat.le_of_ble_eq_true rfl) ?_
        exact W.iret (v := (-1)) hx hb hr (fun t ht hW => ⟨⟨(-1), (), rfl, rfl, trivial⟩, hS.F ht⟩) hS.2.2 dX11_back_23