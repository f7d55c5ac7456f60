def u_c_X1_get : List Cond := .code yX1_get cX1_get 2 (some (.object "CakePapers$Paper")) :: ([.fieldLink RX1 24 "CakePapers$Desk" "count" "I"] ++ wsX10)
theorem iX1_c_X1_get : ∀ w ∈ wsX10, w ∈ u_c_X1_get := fun w h => List.mem_cons_of_mem _ (List.mem_append_right _ h)
set_option maxHeartbeats 1000000 in
set_option maxRecDepth 100000 in
theorem c_X1_get (l : Launch) (dC : Nat → ClassId) (dI : Nat → Nat → Nat) (sz : Nat) (h0 : Nat) (fs : List Value) (hn_fs : fs.length = 3) (e_fs_2 : fs[2]? = some (.int 0)) (p0 : Int32) : Met l yX1_get u_c_X1_get ({ frames := 0, cells := 0, slots := 0, locals := 0 }) (va_Pc [.ref h0, .int p0] (fun U => U.heap.size = sz ∧ va_P (dC, dI) vwCl [(h0, .inr (1, fs))] U.heap ∧ va_K (dC, dI) vwCl [] U ∧ va_D (fun _ => True) [(h0, .inr (1, fs))])) (va_Qq (fun (r : Option Nat) (_ : Unit) => r = none) (fun _ t => va_P (dC, dI) vwCl [(h0, .inr (1, fs))] t.heap ∧ va_D (va_A [(h0, .inr (1, fs))] sz) [(h0, .inr (1, fs))]) (va_A [(h0, .inr (1, fs))] sz)) 0 0 (va_A [(h0, .inr (1, fs))] sz) := by
  refine Met.ofW (cc := cX1_get) (maxL := 2) (ret := (some (.object "CakePapers$Paper"))) (by decide) rfl ?_
  intro p e s m args below meth c s₁ B hml hv
  obtain ⟨rfl, hsz, hP, hK, hD0⟩ := hv
  have hx := B.exec
  have hb := B.bytes
  have hr := B.returns
  have hts := atoms_spec (ws := u_c_X1_get) B.pre
  have hown : s.vm.findClass RX1 = some m.cls := findClass_of_methodNamed B.named
  have hlocks := B.notSynchronized
  have hiX1 := iX1_c_X1_get
  subst hsz
  have hD := hD0.self (sz := s.heap.size)
  generalize hAe : va_A [(h0, .inr (1, fs))] s.heap.size = A at hD ⊢
  have hA : ∀ q : Nat, s.heap.size ≤ q → A q := fun q h => by rw [← hAe]; exact Or.inr h
  have hS : va_S A s.heap s.heap [] := va_S.rf
  obtain ⟨H, hH⟩ : ∃ H : Heap, H = s.heap := ⟨_, rfl⟩
  have hP : va_P (dC, dI) vwCl [(h0, .inr (1, fs))] H := by rw [hH]; exact hP
  have hS : va_S A s.heap H [] := by rw [hH]; exact hS
  have hl := lv_entry ([.ref h0, .int p0]) (n := 2) (Nat.le_of_ble_eq_true rfl)
  rw [lg_entry_eq]
  generalize (lg_sl ([.ref h0, .int p0]) ++ List.replicate (2 - (lg_sl ([.ref h0, .int p0])).length) Slot.unset).toArray = ls at hl ⊢
  have hl : lv_has ls 2 [(0, .ref h0), (1, .int p0)] := hl
  suffices h9 : W p l e (headSpec u_c_X1_get _).room s m _ below meth c H [] 0 0 _ (F0 m 0 ls []) by rw [hH] at h9; exact h9
  refine lv_iload_n hx hb dX1_get_0 rfl (lv_at hl 1 rfl) ?_
  refine lv_if_lt (tgt := 21) hx hb dX1_get_1 (by decide) (fun c_1 => ?_) (fun c_1 => ?_)
  · refine lv_null hx hb dX1_get_21 ?_
    refine W.widen (k := 0) (n := 0) (Nat.le_of_ble_eq_true rfl) (Nat.le_of_ble_eq_true rfl) ?_
    have hP9 := hP.sub (ws' := [(h0, .inr (1, fs))]) [0] rfl
    have hD9 := hD.sub (ws' := [(h0, .inr (1, fs))]) [0] (by decide) rfl
    exact W.aret (v := .null) hx hb hr (Or.inl ⟨_, rfl⟩) (Or.inl rfl) (fun t ht hW => ⟨⟨none, (), rfl, rfl, by rw [ht]; exact hP9, hD9⟩, hS.F ht⟩) hS.2.2 dX1_get_22
  · refine lv_iload_n hx hb dX1_get_4 rfl (lv_at hl 1 rfl) ?_
    refine lv_aload_n hx hb dX1_get_5 rfl (lv_at hl 0 rfl) ?_
    refine va_get (D := (dC, dI)) (ci := 1) (v := .int 0) (C := RX1) (T := TX1) (N := 3) hx hb hts hiX1 hown hK hP 0 rfl rfl 2 (by decide) (hts (.fieldLink RX1 24 "CakePapers$Desk" "count" "I") (by decide +kernel)) (fun _ h9 => h9) e_fs_2 dX1_get_6 ?_
    refine lv_icmp_ge (tgt := 21) hx hb dX1_get_9 (by decide) (fun c_2 => ?_) (fun c_2 => absurd (Int32.not_lt.mp c_1) c_2)
    refine lv_null hx hb dX1_get_21 ?_
    refine W.widen (k := 0) (n := 0) (Nat.le_of_ble_eq_true rfl) (Nat.le_of_ble_eq_true rfl) ?_
    have hP9 := hP.sub (ws' := [(h0, .inr (1, fs))]) [0] rfl
    have hD9 := hD.sub (ws' := [(h0, .inr (1, fs))]) [0] (by decide) rfl
    exact W.aret (v := .null) hx hb hr (Or.inl ⟨_, rfl⟩) (Or.inl rfl) (fun t ht hW => ⟨⟨none, (), rfl, rfl, by rw [ht]; exact hP9, hD9⟩, hS.F ht⟩) hS.2.2 dX1_get_22
def u_c_X1_isFull : List Cond := .code yX1_isFull cX1_isFull 1 (some .boolean) :: ([.fieldLink RX1 24 "CakePapers$Desk" "count" "I"] ++ wsX10)
theorem iX1_c_X1_isFull : ∀ w ∈ wsX10, w ∈ u_c_X1_isFull := fun w h => List.mem_cons_of_mem _ (List.mem_append_right _ h)
set_option maxHeartbeats 1000000 in
set_option maxRecDepth 100000 in
theorem c_X1_isFull (l : Launch) (dC : Nat → ClassId) (dI : Nat → Nat → Nat) (sz : Nat) (h0 : Nat) (fs : List Value) (hn_fs : fs.length = 3) (e_fs_2 : fs[2]? = some (.int 0)) : Met l yX1_isFull u_c_X1_isFull ({ frames := 0, cells := 0, slots := 0, locals := 0 }) (va_Pc [.ref h0] (fun U => U.heap.size = sz ∧ va_P (dC, dI) vwCl [(h0, .inr (1, fs))] U.heap ∧ va_K (dC, dI) vwCl [] U ∧ va_D (fun _ => True) [(h0, .inr (1, fs))])) (va_Qi (fun (r : Int32) (_ : Unit) => r = 0) (fun _ t => va_P (dC, dI) vwCl [(h0, .inr (1, fs))] t.heap ∧ va_D (va_A [(h0, .inr (1, fs))] sz) [(h0, .inr (1, fs))]) (va_A [(h0, .inr (1, fs))] sz)) 0 0 (va_A [(h0, .inr (1, fs))] sz) := by
  refine Met.ofW (cc := cX1_isFull) (maxL := 1) (ret := (some .boolean)) (by decide) rfl ?_
  intro p e s m args below meth c s₁ B hml hv
  obtain ⟨rfl, hsz, hP, hK, hD0⟩ := hv
  have hx := B.exec
  have hb := B.bytes
  have hr := B.returns
  have hts := atoms_spec (ws := u_c_X1_isFull) B.pre
  have hown : s.vm.findClass RX1 = some m.cls := findClass_of_methodNamed B.named
  have hlocks := B.notSynchronized
  have hiX1 := iX1_c_X1_isFull
  subst hsz
  have hD := hD0.self (sz := s.heap.size)
  generalize hAe : va_A [(h0, .inr (1, fs))] s.heap.size = A at hD ⊢
  have hA : ∀ q : Nat, s.heap.size ≤ q → A q := fun q h => by rw [← hAe]; exact Or.inr h
  have hS : va_S A s.heap s.heap [] := va_S.rf
  obtain ⟨H, hH⟩ : ∃ H : Heap, H = s.heap := ⟨_, rfl⟩
  have hP : va_P (dC, dI) vwCl [(h0, .inr (1, fs))] H := by rw [hH]; exact hP
  have hS : va_S A s.heap H [] := by rw [hH]; exact hS
  have hl := lv_entry ([.ref h0]) (n := 1) (Nat.le_of_ble_eq_true rfl)
  rw [lg_entry_eq]
  generalize (lg_sl ([.ref h0]) ++ List.replicate (1 - (lg_sl ([.ref h0])).length) Slot.unset).toArray = ls at hl ⊢
  have hl : lv_has ls 1 [(0, .ref h0)] := hl
  suffices h9 : W p l e (headSpec u_c_X1_isFull _).room s m _ below meth c H [] 0 0 _ (F0 m 0 ls []) by rw [hH] at h9; exact h9
  refine lv_aload_n hx hb dX1_isFull_0 rfl (lv_at hl 0 rfl) ?_
  refine va_get (D := (dC, dI)) (ci := 1) (v := .int 0) (C := RX1) (T := TX1) (N := 3) hx hb hts hiX1 hown hK hP 0 rfl rfl 2 (by decide) (hts (.fieldLink RX1 24 "CakePapers$Desk" "count" "I") (by decide +kernel)) (fun _ h9 => h9) e_fs_2 dX1_isFull_1 ?_
  refine lv_bipush (v := 8) hx hb dX1_isFull_4 (by decide) ?_
  refine lv_icmp_lt (tgt := 13) hx hb dX1_isFull_6 (by decide) (fun c_1 => ?_) (fun c_1 => absurd c_1 (by decide))
  refine lv_iconst (v := 0) hx hb dX1_isFull_13 (by decide) ?_
  refine W.widen (k := 0) (n := 0) (Nat.le_of_ble_eq_true rfl) (Nat.le_of_ble_eq_true rfl) ?_
  have hP9 := hP.sub (ws' := [(h0, .inr (1, fs))]) [0] rfl
  have hD9 := hD.sub (ws' := [(h0, .inr (1, fs))]) [0] (by decide) rfl
  exact W.zret (v := 0) hx hb hr (rfl) (fun t ht hW => ⟨⟨0, (), rfl, rfl, by rw [ht]; exact hP9, hD9⟩, hS.F ht⟩) hS.2.2 dX1_isFull_14
def u_c_X4_isThere : List Cond := .code yX4_isThere cX4_isThere 1 (some .boolean) :: ([.fieldLink RX4 38 "CakePapers$Joining" "base" "LCakePapers$Paper;"] ++ wsX40)
theorem iX4_c_X4_isThere : ∀ w ∈ wsX40, w ∈ u_c_X4_isThere := fun w h => List.mem_cons_of_mem _ (List.mem_append_right _ h)
set_option maxHeartbeats 1000000 in
set_option maxRecDepth 100000 in
theorem c_X4_isThere (l : Launch) (dC : Nat → ClassId) (dI : Nat → Nat → Nat) (sz : Nat) (h0 : Nat) (fs : List Value) (hn_fs : fs.length = 13) (e_fs_0 : fs[0]? = some .null) : Met l yX4_isThere u_c_X4_isThere ({ frames := 0, cells := 0, slots := 0, locals := 0 }) (va_Pc [.ref h0] (fun U => U.heap.size = sz ∧ va_P (dC, dI) vwCl [(h0, .inr (4, fs))] U.heap ∧ va_K (dC, dI) vwCl [] U ∧ va_D (fun _ => True) [(h0, .inr (4, fs))])) (va_Qi (fun (r : Int32) (_ : Unit) => r = 0) (fun _ t => va_P (dC, dI) vwCl [(h0, .inr (4, fs))] t.heap ∧ va_D (va_A [(h0, .inr (4, fs))] sz) [(h0, .inr (4, fs))]) (va_A [(h0, .inr (4, fs))] sz)) 0 0 (va_A [(h0, .inr (4, fs))] sz) := by
  refine Met.ofW (cc := cX4_isThere) (maxL := 1) (ret := (some .boolean)) (by decide) rfl ?_
  intro p e s m args below meth c s₁ B hml hv
  obtain ⟨rfl, hsz, hP, hK, hD0⟩ := hv
  have hx := B.exec
  have hb := B.bytes
  have hr := B.returns
  have hts := atoms_spec (ws := u_c_X4_isThere) B.pre
  have hown : s.vm.findClass RX4 = some m.cls := findClass_of_methodNamed B.named
  have hlocks := B.notSynchronized
  have hiX4 := iX4_c_X4_isThere
  subst hsz
  have hD := hD0.self (sz := s.heap.size)
  generalize hAe : va_A [(h0, .inr (4, fs))] s.heap.size = A at hD ⊢
  have hA : ∀ q : Nat, s.heap.size ≤ q → A q := fun q h => by rw [← hAe]; exact Or.inr h
  have hS : va_S A s.heap s.heap [] := va_S.rf
  obtain ⟨H, hH⟩ : ∃ H : Heap, H = s.heap := ⟨_, rfl⟩
  have hP : va_P (dC, dI) vwCl [(h0, .inr (4, fs))] H := by rw [hH]; exact hP
  have hS : va_S A s.heap H [] := by rw [hH]; exact hS
  have hl := lv_entry ([.ref h0]) (n := 1) (Nat.le_of_ble_eq_true rfl)
  rw [lg_entry_eq]
  generalize (lg_sl ([.ref h0]) ++ List.replicate (1 - (lg_sl ([.ref h0])).length) Slot.unset).toArray = ls at hl ⊢
  have hl : lv_has ls 1 [(0, .ref h0)] := hl
  suffices h9 : W p l e (headSpec u_c_X4_isThere _).room s m _ below meth c H [] 0 0 _ (F0 m 0 ls []) by rw [hH] at h9; exact h9
  refine lv_aload_n hx hb dX4_isThere_0 rfl (lv_at hl 0 rfl) ?_
  refine va_get (D := (dC, dI)) (ci := 4) (v := .null) (C := RX4) (T := TX4) (N := 13) hx hb hts hiX4 hown hK hP 0 rfl rfl 0 (by decide) (hts (.fieldLink RX4 38 "CakePapers$Joining" "base" "LCakePapers$Paper;") (by decide +kernel)) (fun _ h9 => h9) e_fs_0 dX4_isThere_1 ?_
  refine lv_ifnullN (tgt := 25) hx hb dX4_isThere_4 (by decide) ?_
  refine lv_iconst (v := 0) hx hb dX4_isThere_25 (by decide) ?_
  refine W.widen (k := 0) (n := 0) (Nat.le_of_ble_eq_true rfl) (Nat.le_of_ble_eq_true rfl) ?_
  have hP9 := hP.sub (ws' := [(h0, .inr (4, fs))]) [0] rfl
  have hD9 := hD.sub (ws' := [(h0, .inr (4, fs))]) [0] (by decide) rfl
  exact W.zret (v := 0) hx hb hr (rfl) (fun t ht hW => ⟨⟨0, (), rfl, rfl, by rw [ht]; exact hP9, hD9⟩, hS.F ht⟩) hS.2.2 dX4_isThere_26
def u_c_X4_hasQuarrel : List Cond := .code yX4_hasQuarrel cX4_hasQuarrel 2 (some .boolean) :: ([.fieldLink RX4 48 "CakePapers$Joining" "quarrels" "I"] ++ wsX40)
theorem iX4_c_X4_hasQuarrel : ∀ w ∈ wsX40, w ∈ u_c_X4_hasQuarrel := fun w h => List.mem_cons_of_mem _ (List.mem_append_right _ h)
set_option maxHeartbeats 1000000 in
set_option maxRecDepth 100000 in
theorem c_X4_hasQuarrel (l : Launch) (dC : Nat → ClassId) (dI : Nat → Nat → Nat) (sz : Nat) (h0 : Nat) (fs : List Value) (hn_fs : fs.length = 13) (e_fs_12 : fs[12]? = some (.int 0)) (p0 : Int32) : Met l yX4_hasQuarrel u_c_X4_hasQuarrel ({ frames := 0, cells := 0, slots := 0, locals := 0 }) (va_Pc [.ref h0, .int p0] (fun U => U.heap.size = sz ∧ va_P (dC, dI) vwCl [(h0, .inr (4, fs))] U.heap ∧ va_K (dC, dI) vwCl [] U ∧ va_D (fun _ => True) [(h0, .inr (4, fs))])) (va_Qi (fun (r : Int32) (_ : Unit) => r = 0) (fun _ t => va_P (dC, dI) vwCl [(h0, .inr (4, fs))] t.heap ∧ va_D (va_A [(h0, .inr (4, fs))] sz) [(h0, .inr (4, fs))]) (va_A [(h0, .inr (4, fs))] sz)) 0 0 (va_A [(h0, .inr (4, fs))] sz) := by
  refine Met.ofW (cc := cX4_hasQuarrel) (maxL := 2) (ret := (some .boolean)) (by decide) rfl ?_
  intro p e s m args below meth c s₁ B hml hv
  obtain ⟨rfl, hsz, hP, hK, hD0⟩ := hv
  have hx := B.exec
  have hb := B.bytes
  have hr := B.returns
  have hts := atoms_spec (ws := u_c_X4_hasQuarrel) B.pre
  have hown : s.vm.findClass RX4 = some m.cls := findClass_of_methodNamed B.named
  have hlocks := B.notSynchronized
  have hiX4 := iX4_c_X4_hasQuarrel
  subst hsz
  have hD := hD0.self (sz := s.heap.size)
  generalize hAe : va_A [(h0, .inr (4, fs))] s.heap.size = A at hD ⊢
  have hA : ∀ q : Nat, s.heap.size ≤ q → A q := fun q h => by rw [← hAe]; exact Or.inr h
  have hS : va_S A s.heap s.heap [] := va_S.rf
  obtain ⟨H, hH⟩ : ∃ H : Heap, H = s.heap := ⟨_, rfl⟩
  have hP : va_P (dC, dI) vwCl [(h0, .inr (4, fs))] H := by rw [hH]; exact hP
  have hS : va_S A s.heap H [] := by rw [hH]; exact hS
  have hl := lv_entry ([.ref h0, .int p0]) (n := 2) (Nat.le_of_ble_eq_true rfl)
  rw [lg_entry_eq]
  generalize (lg_sl ([.ref h0, .int p0]) ++ List.replicate (2 - (lg_sl ([.ref h0, .int p0])).length) Slot.unset).toArray = ls at hl ⊢
  have hl : lv_has ls 2 [(0, .ref h0), (1, .int p0)] := hl
  suffices h9 : W p l e (headSpec u_c_X4_hasQuarrel _).room s m _ below meth c H [] 0 0 _ (F0 m 0 ls []) by rw [hH] at h9; exact h9
  refine lv_iload_n hx hb dX4_hasQuarrel_0 rfl (lv_at hl 1 rfl) ?_
  refine lv_if_lt (tgt := 16) hx hb dX4_hasQuarrel_1 (by decide) (fun c_1 => ?_) (fun c_1 => ?_)
  · refine lv_iconst (v := 0) hx hb dX4_hasQuarrel_16 (by decide) ?_
    refine W.widen (k := 0) (n := 0) (Nat.le_of_ble_eq_true rfl) (Nat.le_of_ble_eq_true rfl) ?_
    have hP9 := hP.sub (ws' := [(h0, .inr (4, fs))]) [0] rfl
    have hD9 := hD.sub (ws' := [(h0, .inr (4, fs))]) [0] (by decide) rfl
    exact W.zret (v := 0) hx hb hr (rfl) (fun t ht hW => ⟨⟨0, (), rfl, rfl, by rw [ht]; exact hP9, hD9⟩, hS.F ht⟩) hS.2.2 dX4_hasQuarrel_17
  · refine lv_iload_n hx hb dX4_hasQuarrel_4 rfl (lv_at hl 1 rfl) ?_
    refine lv_aload_n hx hb dX4_hasQuarrel_5 rfl (lv_at hl 0 rfl) ?_
    refine va_get (D := (dC, dI)) (ci := 4) (v := .int 0) (C := RX4) (T := TX4) (N := 13) hx hb hts hiX4 hown hK hP 0 rfl rfl 12 (by decide) (hts (.fieldLink RX4 48 "CakePapers$Joining" "quarrels" "I") (by decide +kernel)) (fun _ h9 => h9) e_fs_12 dX4_hasQuarrel_6 ?_
    refine lv_icmp_ge (tgt := 16) hx hb dX4_hasQuarrel_9 (by decide) (fun c_2 => ?_) (fun c_2 => absurd (Int32.not_lt.mp c_1) c_2)
    refine lv_iconst (v := 0) hx hb dX4_hasQuarrel_16 (by decide) ?_
    refine W.widen (k := 0) (n := 0) (Nat.le_of_ble_eq_true rfl) (Nat.le_of_ble_eq_true rfl) ?_
    have hP9 := hP.sub (ws' := [(h0, .inr (4, fs))]) [0] rfl
    have hD9 := hD.sub (ws' := [(h0, .inr (4, fs))]) [0] (by decide) rfl
    exact W.zret (v := 0) hx hb hr (rfl) (fun t ht hW => ⟨⟨0, (), rfl, rfl, by rw [ht]; exact hP9, hD9⟩, hS.F ht⟩) hS.2.2 dX4_hasQuarrel_17
def u_c_X4_clear : List Cond := .code yX4_clear cX4_clear 1 none :: ([.fieldLink RX4 38 "CakePapers$Joining" "base" "LCakePapers$Paper;", .fieldLink RX4 42 "CakePapers$Joining" "one" "LCakePapers$Paper;", .fieldLink RX4 45 "CakePapers$Joining" "other" "LCakePapers$Paper;", .fieldLink RX4 52 "CakePapers$Joining" "steps" "I", .fieldLink RX4 48 "CakePapers$Joining" "quarrels" "I"] ++ wsX40)
theorem iX4_c_X4_clear : ∀ w ∈ wsX40, w ∈ u_c_X4_clear := fun w h => List.mem_cons_of_mem _ (List.mem_append_right _ h)
set_option maxHeartbeats 1000000 in
set_option maxRecDepth 100000 in
theorem c_X4_clear (l : Launch) (dC : Nat → ClassId) (dI : Nat → Nat → Nat) (sz : Nat) (h0 : Nat) (fs : List Value) (hn_fs : fs.length = 13) : Met l yX4_clear u_c_X4_clear ({ frames := 0, cells := 0, slots := 0, locals := 0 }) (va_Pc [.ref h0] (fun U => U.heap.size = sz ∧ va_P (dC, dI) vwCl [(h0, .inr (4, fs))] U.heap ∧ va_K (dC, dI) vwCl [] U ∧ va_D (fun _ => True) [(h0, .inr (4, fs))])) (va_Qv (fun (_ : Unit) => True) (fun _ t => va_P (dC, dI) vwCl [(h0, .inr (4, (List.set (List.set (List.set (List.set (List.set fs 0 .null) 1 .null) 2 .null) 11 (.int 0)) 12 (.int 0))))] t.heap ∧ va_D (va_A [(h0, .inr (4, fs))] sz) [(h0, .inr (4, (List.set (List.set (List.set (List.set (List.set fs 0 .null) 1 .null) 2 .null) 11 (.int 0)) 12 (.int 0))))]) (va_A [(h0, .inr (4, fs))] sz)) 0 0 (va_A [(h0, .inr (4, fs))] sz) := by
  refine Met.ofW (cc := cX4_clear) (maxL := 1) (ret := none) (by decide) rfl ?_
  intro p e s m args below meth c s₁ B hml hv
  obtain ⟨rfl, hsz, hP, hK, hD0⟩ := hv
  have hx := B.exec
  have hb := B.bytes
  have hr := B.returns
  have hts := atoms_spec (ws := u_c_X4_clear) B.pre
  have hown : s.vm.findClass RX4 = some m.cls := findClass_of_methodNamed B.named
  have hlocks := B.notSynchronized
  have hiX4 := iX4_c_X4_clear
  subst hsz
  have hD := hD0.self (sz := s.heap.size)
  generalize hAe : va_A [(h0, .inr (4, fs))] s.heap.size = A at hD ⊢
  have hA : ∀ q : Nat, s.heap.size ≤ q → A q := fun q h => by rw [← hAe]; exact Or.inr h
  have hS : va_S A s.heap s.heap [] := va_S.rf
  obtain ⟨H, hH⟩ : ∃ H : Heap, H = s.heap := ⟨_, rfl⟩
  have hP : va_P (dC, dI) vwCl [(h0, .inr (4, fs))] H := by rw [hH]; exact hP
  have hS : va_S A s.heap H [] := by rw [hH]; exact hS
  have hl := lv_entry ([.ref h0]) (n := 1) (Nat.le_of_ble_eq_true rfl)
  rw [lg_entry_eq]
  generalize (lg_sl ([.ref h0]) ++ List.replicate (1 - (lg_sl ([.ref h0])).length) Slot.unset).toArray = ls at hl ⊢
  have hl : lv_has ls 1 [(0, .ref h0)] := hl
  suffices h9 : W p l e (headSpec u_c_X4_clear _).room s m _ below meth c H [] 0 0 _ (F0 m 0 ls []) by rw [hH] at h9; exact h9
  refine lv_aload_n hx hb dX4_clear_0 rfl (lv_at hl 0 rfl) ?_
  refine lv_null hx hb dX4_clear_1 ?_
  refine va_put (D := (dC, dI)) (ci := 4) (v := .null) (ty := (.object "CakePapers$Paper")) (C := RX4) (T := TX4) (N := 13) hx hb hts hiX4 tyX4 tyX4_ok nmX4 hown hK hP hD hS 0 rfl rfl 0 (by decide) (hts (.fieldLink RX4 38 "CakePapers$Joining" "base" "LCakePapers$Paper;") (by decide +kernel)) (fun _ h9 => h9) rfl (by decide +kernel) rfl rfl (by simp [hn_fs]) dX4_clear_2 (fun H locs hP hD hS => ?_)
  have hP : va_P (dC, dI) vwCl [(h0, .inr (4, (List.set fs 0 .null)))] H := hP
  have hD : va_D A [(h0, .inr (4, (List.set fs 0 .null)))] := hD
  refine lv_aload_n hx hb dX4_clear_5 rfl (lv_at hl 0 rfl) ?_
  refine lv_null hx hb dX4_clear_6 ?_
  refine va_put (D := (dC, dI)) (ci := 4) (v := .null) (ty := (.object "CakePapers$Paper")) (C := RX4) (T := TX4) (N := 13) hx hb hts hiX4 tyX4 tyX4_ok nmX4 hown hK hP hD hS 0 rfl rfl 1 (by decide) (hts (.fieldLink RX4 42 "CakePapers$Joining" "one" "LCakePapers$Paper;") (by decide +kernel)) (fun _ h9 => h9) rfl (by decide +kernel) rfl rfl (by simp [hn_fs]) dX4_clear_7 (fun H locs hP hD hS => ?_)
  have hP : va_P (dC, dI) vwCl [(h0, .inr (4, (List.set (List.set fs 0 .null) 1 .null)))] H := hP
  have hD : va_D A [(h0, .inr (4, (List.set (List.set fs 0 .null) 1 .null)))] := hD
  refine lv_aload_n hx hb dX4_clear_10 rfl (lv_at hl 0 rfl) ?_
  refine lv_null hx hb dX4_clear_11 ?_
  refine va_put (D := (dC, dI)) (ci := 4) (v := .null) (ty := (.object "CakePapers$Paper")) (C := RX4) (T := TX4) (N := 13) hx hb hts hiX4 tyX4 tyX4_ok nmX4 hown hK hP hD hS 0 rfl rfl 2 (by decide) (hts (.fieldLink RX4 45 "CakePapers$Joining" "other" "LCakePapers$Paper;") (by decide +kernel)) (fun _ h9 => h9) rfl (by decide +kernel) rfl rfl (by simp [hn_fs]) dX4_clear_12 (fun H locs hP hD hS => ?_)
  have hP : va_P (dC, dI) vwCl [(h0, .inr (4, (List.set (List.set (List.set fs 0 .null) 1 .null) 2 .null)))] H := hP
  have hD : va_D A [(h0, .inr (4, (List.set (List.set (List.set fs 0 .null) 1 .null) 2 .null)))] := hD
  refine lv_aload_n hx hb dX4_clear_15 rfl (lv_at hl 0 rfl) ?_
  refine lv_iconst (v := 0) hx hb dX4_clear_16 (by decide) ?_
  refine va_put (D := (dC, dI)) (ci := 4) (v := .int 0) (ty := .int) (C := RX4) (T := TX4) (N := 13) hx hb hts hiX4 tyX4 tyX4_ok nmX4 hown hK hP hD hS 0 rfl rfl 11 (by decide) (hts (.fieldLink RX4 52 "CakePapers$Joining" "steps" "I") (by decide +kernel)) (fun _ h9 => h9) rfl (by decide +kernel) rfl rfl (by simp [hn_fs]) dX4_clear_17 (fun H locs hP hD hS => ?_)
  have hP : va_P (dC, dI) vwCl [(h0, .inr (4, (List.set (List.set (List.set (List.set fs 0 .null) 1 .null) 2 .null) 11 (.int 0))))] H := hP
  have hD : va_D A [(h0, .inr (4, (List.set (List.set (List.set (List.set fs 0 .null) 1 .null) 2 .null) 11 (.int 0))))] := hD
  refine lv_aload_n hx hb dX4_clear_20 rfl (lv_at hl 0 rfl) ?_
  refine lv_iconst (v := 0) hx hb dX4_clear_21 (by decide) ?_
  refine va_put (D := (dC, dI)) (ci := 4) (v := .int 0) (ty := .int) (C := RX4) (T := TX4) (N := 13) hx hb hts hiX4 tyX4 tyX4_ok nmX4 hown hK hP hD hS 0 rfl rfl 12 (by decide) (hts (.fieldLink RX4 48 "CakePapers$Joining" "quarrels" "I") (by decide +kernel)) (fun _ h9 => h9) rfl (by decide +kernel) rfl rfl (by simp [hn_fs]) dX4_clear_22 (fun H locs hP hD hS => ?_)
  have hP : va_P (dC, dI) vwCl [(h0, .inr (4, (List.set (List.set (List.set (List.set (List.set fs 0 .null) 1 .null) 2 .null) 11 (.int 0)) 12 (.int 0))))] H := hP
  have hD : va_D A [(h0, .inr (4, (List.set (List.set (List.set (List.set (List.set fs 0 .null) 1 .null) 2 .null) 11 (.int 0)) 12 (.int 0))))] := hD
  refine W.widen (k := 0) (n := 0) (Nat.le_of_ble_eq_true rfl) (Nat.le_of_ble_eq_true rfl) ?_
  have hP9 := hP.sub (ws' := [(h0, .inr (4, (List.set (List.set (List.set (List.set (List.set fs 0 .null) 1 .null) 2 .null) 11 (.int 0)) 12 (.int 0))))]) [0] rfl
  have hD9 := hD.sub (ws' := [(h0, .inr (4, (List.set (List.set (List.set (List.set (List.set fs 0 .null) 1 .null) 2 .null) 11 (.int 0)) 12 (.int 0))))]) [0] (by decide) rfl
  exact W.vret hx hb hr (fun t ht hW => ⟨⟨(), rfl, trivial, by rw [ht]; exact hP9, hD9⟩, hS.F ht⟩) hS.2.2 dX4_clear_25
def u_c_X4_copyFrom : List Cond := .code yX4_copyFrom cX4_copyFrom 3 none :: ([.code yX4_isThere cX4_isThere 1 (some .boolean), .fieldLink RX4 38 "CakePapers$Joining" "base" "LCakePapers$Paper;", .methodLink RX4 55 yX4_isThere, .instanceMethod yX4_isThere, .selects RX4 yX4_isThere yX4_isThere, .initialized RX4, .code yX4_clear cX4_clear 1 none, .fieldLink RX4 42 "CakePapers$Joining" "one" "LCakePapers$Paper;", .fieldLink RX4 45 "CakePapers$Joining" "other" "LCakePapers$Paper;", .fieldLink RX4 52 "CakePapers$Joining" "steps" "I", .fieldLink RX4 48 "CakePapers$Joining" "quarrels" "I", .methodLink RX4 59 yX4_clear, .instanceMethod yX4_clear, .selects RX4 yX4_clear yX4_clear] ++ wsX40)
theorem iX4_c_X4_copyFrom : ∀ w ∈ wsX40, w ∈ u_c_X4_copyFrom := fun w h => List.mem_cons_of_mem _ (List.mem_append_right _ h)
set_option maxRecDepth 20000 in
theorem g_c_X4_copyFrom_c_X4_isThere_0 : GoodIn u_c_X4_copyFrom (wsV RX4 55 RX4 yX4_isThere u_c_X4_isThere) := goodIn_app (goodIn_of _ (by decide +kernel)) (goodIn_ca (goodIn_of (.code yX4_isThere cX4_isThere 1 (some .boolean) :: [.fieldLink RX4 38 "CakePapers$Joining" "base" "LCakePapers$Paper;"]) (by decide +kernel)) (goodIn_sub iX4_c_X4_copyFrom zgX4))
set_option maxRecDepth 20000 in
theorem g_c_X4_copyFrom_c_X4_clear_1 : GoodIn u_c_X4_copyFrom (wsV RX4 59 RX4 yX4_clear u_c_X4_clear) := goodIn_app (goodIn_of _ (by decide +kernel)) (goodIn_ca (goodIn_of (.code yX4_clear cX4_clear 1 none :: [.fieldLink RX4 38 "CakePapers$Joining" "base" "LCakePapers$Paper;", .fieldLink RX4 42 "CakePapers$Joining" "one" "LCakePapers$Paper;", .fieldLink RX4 45 "CakePapers$Joining" "other" "LCakePapers$Paper;", .fieldLink RX4 52 "CakePapers$Joining" "steps" "I", .fieldLink RX4 48 "CakePapers$Joining" "quarrels" "I"]) (by decide +kernel)) (goodIn_sub iX4_c_X4_copyFrom zgX4))
set_option maxHeartbeats 1000000 in
set_option maxRecDepth 100000 in
theorem c_X4_copyFrom (l : Launch) (dC : Nat → ClassId) (dI : Nat → Nat → Nat) (sz : Nat) (h0 h1 : Nat) (fs : List Value) (hn_fs : fs.length = 13) (gs : List Value) (hn_gs : gs.length = 13) (e_gs_0 : gs[0]? = some .null) : Met l yX4_copyFrom u_c_X4_copyFrom ({ frames := 1, cells := 0, slots := 0, locals := 20 }) (va_Pc [.ref h0, .ref h1] (fun U => U.heap.size = sz ∧ va_P (dC, dI) vwCl [(h0, .inr (4, fs)), (h1, .inr (4, gs))] U.heap ∧ va_K (dC, dI) vwCl [] U ∧ va_D (fun _ => True) [(h0, .inr (4, fs)), (h1, .inr (4, gs))])) (va_Qv (fun (_ : Unit) => True) (fun _ t => va_P (dC, dI) vwCl [(h0, .inr (4, (List.set (List.set (List.set (List.set (List.set fs 0 .null) 1 .null) 2 .null) 11 (.int 0)) 12 (.int 0)))), (h1, .inr (4, gs))] t.heap ∧ va_D (va_A [(h0, .inr (4, fs)), (h1, .inr (4, gs))] sz) [(h0, .inr (4, (List.set (List.set (List.set (List.set (List.set fs 0 .null) 1 .null) 2 .null) 11 (.int 0)) 12 (.int 0)))), (h1, .inr (4, gs))]) (va_A [(h0, .inr (4, fs)), (h1, .inr (4, gs))] sz)) 0 0 (va_A [(h0, .inr (4, fs)), (h1, .inr (4, gs))] sz) := by
  refine Met.ofW (cc := cX4_copyFrom) (maxL := 3) (ret := none) (by decide) rfl ?_
  intro p e s m args below meth c s₁ B hml hv
  obtain ⟨rfl, hsz, hP, hK, hD0⟩ := hv
  have hx := B.exec
  have hb := B.bytes
  have hr := B.returns
  have hts := atoms_spec (ws := u_c_X4_copyFrom) B.pre
  have hown : s.vm.findClass RX4 = some m.cls := findClass_of_methodNamed B.named
  have hlocks := B.notSynchronized
  have hiX4 := iX4_c_X4_copyFrom
  subst hsz
  have hD := hD0.self (sz := s.heap.size)
  generalize hAe : va_A [(h0, .inr (4, fs)), (h1, .inr (4, gs))] s.heap.size = A at hD ⊢
  have hA : ∀ q : Nat, s.heap.size ≤ q → A q := fun q h => by rw [← hAe]; exact Or.inr h
  have hS : va_S A s.heap s.heap [] := va_S.rf
  obtain ⟨H, hH⟩ : ∃ H : Heap, H = s.heap := ⟨_, rfl⟩
  have hP : va_P (dC, dI) vwCl [(h0, .inr (4, fs)), (h1, .inr (4, gs))] H := by rw [hH]; exact hP
  have hS : va_S A s.heap H [] := by rw [hH]; exact hS
  have hl := lv_entry ([.ref h0, .ref h1]) (n := 3) (Nat.le_of_ble_eq_true rfl)
  rw [lg_entry_eq]
  generalize (lg_sl ([.ref h0, .ref h1]) ++ List.replicate (3 - (lg_sl ([.ref h0, .ref h1])).length) Slot.unset).toArray = ls at hl ⊢
  have hl : lv_has ls 3 [(0, .ref h0), (1, .ref h1)] := hl
  suffices h9 : W p l e (headSpec u_c_X4_copyFrom _).room s m _ below meth c H [] 0 0 _ (F0 m 0 ls []) by rw [hH] at h9; exact h9
  refine lv_aload_n hx hb dX4_copyFrom_0 rfl (lv_at hl 1 rfl) ?_
  have hPc := hP.sub (ws' := [(h1, .inr (4, gs))]) [1] rfl
  have hDc := hD.sub (ws' := [(h1, .inr (4, gs))]) [1] (by decide) rfl
  have hKc := hK.sub (tys' := []) [] rfl
  have hFc := va_free (wc := [(h1, .inr (4, gs))]) hD hS hA [1] rfl
  refine va_calli (va_runV (As := []) (rest := []) ⟨hx, hb, hml, hown, hts⟩ (c_X4_isThere l dC dI H.size h1 gs hn_gs e_gs_0) (cwV 0 hts g_c_X4_copyFrom_c_X4_isThere_0 rfl rfl rfl (by decide +kernel) ⟨Nat.le_of_ble_eq_true rfl, Nat.le_of_ble_eq_true rfl⟩) ⟨fun a U g mk q => by obtain ⟨q0, q1, qP, qK, qD⟩ := q; exact ⟨q0, q1, qP, va_K.moved (u := U) (U := U.calling g mk a) (Vm.Alike.refl U.vm) qK, qD⟩, va_recv hKc hPc (ci := 4) (q0 := 0) rfl rfl, fun U hU hW => ⟨rfl, by rw [hU], by rw [hU]; exact hPc, va_K.moved hW.alike hKc, hDc.weaken (fun _ _ _ _ => trivial)⟩⟩ rfl rfl hl.1 rfl (lv_room (Nat.le_of_ble_eq_true rfl)) dX4_copyFrom_1 ⟨Nat.le_of_ble_eq_true rfl, Nat.le_of_ble_eq_true rfl⟩) hS (fun q _ h => hFc q h) hFc (fun r_1 u t H1 locs ht hvm hw hB hz1 hk1 hS => ?_)
  obtain ⟨hP1, hD1⟩ := hB
  rw [ht] at hP1
  obtain ⟨hP, hD⟩ := va_join (wr := [(h0, .inr (4, fs))]) (w1 := [(h1, .inr (4, gs))]) hP hD [1] [0] rfl rfl (by decide) (by decide) hk1 hFc hP1 hD1
  generalize H1 = H at hP hS ⊢
  have hP : va_P (dC, dI) vwCl [(h0, .inr (4, fs)), (h1, .inr (4, gs))] H := hP
  have hD : va_D A [(h0, .inr (4, fs)), (h1, .inr (4, gs))] := hD
  refine W.widen (k := 0) (n := 0) (Nat.le_of_ble_eq_true rfl) (Nat.le_of_ble_eq_true rfl) ?_
  refine zz_ci (y := 0) hw ?_
  refine lv_if_ne (tgt := 12) hx hb dX4_copyFrom_4 (by decide) (fun c_2 => absurd c_2 (by decide)) (fun c_2 => ?_)
  refine lv_aload_n hx hb dX4_copyFrom_7 rfl (lv_at hl 0 rfl) ?_
  have hPc := hP.sub (ws' := [(h0, .inr (4, fs))]) [0] rfl
  have hDc := hD.sub (ws' := [(h0, .inr (4, fs))]) [0] (by decide) rfl
  have hKc := hK.sub (tys' := []) [] rfl
  have hFc := va_free (wc := [(h0, .inr (4, fs))]) hD hS hA [0] rfl
  refine va_callv (va_runV (As := []) (rest := []) ⟨hx, hb, hml, hown, hts⟩ (c_X4_clear l dC dI H.size h0 fs hn_fs) (cwV 0 hts g_c_X4_copyFrom_c_X4_clear_1 rfl rfl rfl (by decide +kernel) ⟨Nat.le_of_ble_eq_true rfl, Nat.le_of_ble_eq_true rfl⟩) ⟨fun a U g mk q => by obtain ⟨q0, q1, qP, qK, qD⟩ := q; exact ⟨q0, q1, qP, va_K.moved (u := U) (U := U.calling g mk a) (Vm.Alike.refl U.vm) qK, qD⟩, va_recv hKc hPc (ci := 4) (q0 := 0) rfl rfl, fun U hU hW => ⟨rfl, by rw [hU], by rw [hU]; exact hPc, va_K.moved hW.alike hKc, hDc.weaken (fun _ _ _ _ => trivial)⟩⟩ rfl rfl hl.1 rfl (lv_room (Nat.le_of_ble_eq_true rfl)) dX4_copyFrom_8 ⟨Nat.le_of_ble_eq_true rfl, Nat.le_of_ble_eq_true rfl⟩) hS (fun q _ h => hFc q h) hFc (fun u t H1 locs ht hvm hw hB hz1 hk1 hS => ?_)
  obtain ⟨hP1, hD1⟩ := hB
  rw [ht] at hP1
  obtain ⟨hP, hD⟩ := va_join (wr := [(h1, .inr (4, gs))]) (w1 := [(h0, .inr (4, (List.set (List.set (List.set (List.set (List.set fs 0 .null) 1 .null) 2 .null) 11 (.int 0)) 12 (.int 0))))]) hP hD [0] [1] rfl rfl (by decide) (by decide) hk1 hFc hP1 hD1
  generalize H1 = H at hP hS ⊢
  have hP : va_P (dC, dI) vwCl [(h1, .inr (4, gs)), (h0, .inr (4, (List.set (List.set (List.set (List.set (List.set fs 0 .null) 1 .null) 2 .null) 11 (.int 0)) 12 (.int 0))))] H := hP
  have hD : va_D A [(h1, .inr (4, gs)), (h0, .inr (4, (List.set (List.set (List.set (List.set (List.set fs 0 .null) 1 .null) 2 .null) 11 (.int 0)) 12 (.int 0))))] := hD
  refine W.widen (k := 0) (n := 0) (Nat.le_of_ble_eq_true rfl) (Nat.le_of_ble_eq_true rfl) ?_
  refine W.widen (k := 0) (n := 0) (Nat.le_of_ble_eq_true rfl) (Nat.le_of_ble_eq_true rfl) ?_
  have hP9 := hP.sub (ws' := [(h0, .inr (4, (List.set (List.set (List.set (List.set (List.set fs 0 .null) 1 .null) 2 .null) 11 (.int 0)) 12 (.int 0)))), (h1, .inr (4, gs))]) [1, 0] rfl
  have hD9 := hD.sub (ws' := [(h0, .inr (4, (List.set (List.set (List.set (List.set (List.set fs 0 .null) 1 .null) 2 .null) 11 (.int 0)) 12 (.int 0)))), (h1, .inr (4, gs))]) [1, 0] (by decide) rfl
  exact W.vret hx hb hr (fun t ht hW => ⟨⟨(), rfl, trivial, by rw [ht]; exact hP9, hD9⟩, hS.F ht⟩) hS.2.2 dX4_copyFrom_11
def u_c_X8_next : List Cond := .code yX8_next cX8_next 1 none :: ([.fieldLink RX8 43 "CakePapers$Scanner" "at" "I", .fieldLink RX8 41 "CakePapers$Scanner" "length" "I", .fieldLink RX8 52 "CakePapers$Scanner" "place" "I", .fieldLink RX8 55 "CakePapers$Scanner" "kind" "I"] ++ wsX80)
theorem iX8_c_X8_next : ∀ w ∈ wsX80, w ∈ u_c_X8_next := fun w h => List.mem_cons_of_mem _ (List.mem_append_right _ h)
set_option maxHeartbeats 1000000 in
set_option maxRecDepth 100000 in
theorem c_X8_next (l : Launch) (dC : Nat → ClassId) (dI : Nat → Nat → Nat) (sz : Nat) (h0 : Nat) (fs : List Value) (hn_fs : fs.length = 10) (e_fs_2 : fs[2]? = some (.int 0)) (e_fs_3 : fs[3]? = some (.int 0)) : Met l yX8_next u_c_X8_next ({ frames := 0, cells := 0, slots := 0, locals := 0 }) (va_Pc [.ref h0] (fun U => U.heap.size = sz ∧ va_P (dC, dI) vwCl [(h0, .inr (8, fs))] U.heap ∧ va_K (dC, dI) vwCl [] U ∧ va_D (fun _ => True) [(h0, .inr (8, fs))])) (va_Qv (fun (_ : Unit) => True) (fun _ t => va_P (dC, dI) vwCl [(h0, .inr (8, (List.set (List.set fs 5 (.int 0)) 4 (.int 1))))] t.heap ∧ va_D (va_A [(h0, .inr (8, fs))] sz) [(h0, .inr (8, (List.set (List.set fs 5 (.int 0)) 4 (.int 1))))]) (va_A [(h0, .inr (8, fs))] sz)) 0 0 (va_A [(h0, .inr (8, fs))] sz) := by
  refine Met.ofW (cc := cX8_next) (maxL := 1) (ret := none) (by decide) rfl ?_
  intro p e s m args below meth c s₁ B hml hv
  obtain ⟨rfl, hsz, hP, hK, hD0⟩ := hv
  have hx := B.exec
  have hb := B.bytes
  have hr := B.returns
  have hts := atoms_spec (ws := u_c_X8_next) B.pre
  have hown : s.vm.findClass RX8 = some m.cls := findClass_of_methodNamed B.named
  have hlocks := B.notSynchronized
  have hiX8 := iX8_c_X8_next
  subst hsz
  have hD := hD0.self (sz := s.heap.size)
  generalize hAe : va_A [(h0, .inr (8, fs))] s.heap.size = A at hD ⊢
  have hA : ∀ q : Nat, s.heap.size ≤ q → A q := fun q h => by rw [← hAe]; exact Or.inr h
  have hS : va_S A s.heap s.heap [] := va_S.rf
  obtain ⟨H, hH⟩ : ∃ H : Heap, H = s.heap := ⟨_, rfl⟩
  have hP : va_P (dC, dI) vwCl [(h0, .inr (8, fs))] H := by rw [hH]; exact hP
  have hS : va_S A s.heap H [] := by rw [hH]; exact hS
  have hl := lv_entry ([.ref h0]) (n := 1) (Nat.le_of_ble_eq_true rfl)
  rw [lg_entry_eq]
  generalize (lg_sl ([.ref h0]) ++ List.replicate (1 - (lg_sl ([.ref h0])).length) Slot.unset).toArray = ls at hl ⊢
  have hl : lv_has ls 1 [(0, .ref h0)] := hl
  suffices h9 : W p l e (headSpec u_c_X8_next _).room s m _ below meth c H [] 0 0 _ (F0 m 0 ls []) by rw [hH] at h9; exact h9
  refine lv_aload_n hx hb dX8_next_0 rfl (lv_at hl 0 rfl) ?_
  refine va_get (D := (dC, dI)) (ci := 8) (v := .int 0) (C := RX8) (T := TX8) (N := 10) hx hb hts hiX8 hown hK hP 0 rfl rfl 3 (by decide) (hts (.fieldLink RX8 43 "CakePapers$Scanner" "at" "I") (by decide +kernel)) (fun _ h9 => h9) e_fs_3 dX8_next_1 ?_
  refine lv_aload_n hx hb dX8_next_4 rfl (lv_at hl 0 rfl) ?_
  refine va_get (D := (dC, dI)) (ci := 8) (v := .int 0) (C := RX8) (T := TX8) (N := 10) hx hb hts hiX8 hown hK hP 0 rfl rfl 2 (by decide) (hts (.fieldLink RX8 41 "CakePapers$Scanner" "length" "I") (by decide +kernel)) (fun _ h9 => h9) e_fs_2 dX8_next_5 ?_
  refine lv_icmp_ge (tgt := 52) hx hb dX8_next_8 (by decide) (fun c_1 => ?_) (fun c_1 => absurd c_1 (by decide))
  refine lv_aload_n hx hb dX8_next_52 rfl (lv_at hl 0 rfl) ?_
  refine lv_aload_n hx hb dX8_next_53 rfl (lv_at hl 0 rfl) ?_
  refine va_get (D := (dC, dI)) (ci := 8) (v := .int 0) (C := RX8) (T := TX8) (N := 10) hx hb hts hiX8 hown hK hP 0 rfl rfl 3 (by decide) (hts (.fieldLink RX8 43 "CakePapers$Scanner" "at" "I") (by decide +kernel)) (fun _ h9 => h9) e_fs_3 dX8_next_54 ?_
  refine va_put (D := (dC, dI)) (ci := 8) (v := .int 0) (ty := .int) (C := RX8) (T := TX8) (N := 10) hx hb hts hiX8 tyX8 tyX8_ok nmX8 hown hK hP hD hS 0 rfl rfl 5 (by decide) (hts (.fieldLink RX8 52 "CakePapers$Scanner" "place" "I") (by decide +kernel)) (fun _ h9 => h9) rfl (by decide +kernel) rfl rfl (by simp [hn_fs]) dX8_next_57 (fun H locs hP hD hS => ?_)
  have hP : va_P (dC, dI) vwCl [(h0, .inr (8, (List.set fs 5 (.int 0))))] H := hP
  have hD : va_D A [(h0, .inr (8, (List.set fs 5 (.int 0))))] := hD
  refine lv_aload_n hx hb dX8_next_60 rfl (lv_at hl 0 rfl) ?_
  refine va_get (D := (dC, dI)) (ci := 8) (v := .int 0) (C := RX8) (T := TX8) (N := 10) hx hb hts hiX8 hown hK hP 0 rfl rfl 3 (by decide) (hts (.fieldLink RX8 43 "CakePapers$Scanner" "at" "I") (by decide +kernel)) (fun _ h9 => h9) (by simp [e_fs_3]) dX8_next_61 ?_
  refine lv_aload_n hx hb dX8_next_64 rfl (lv_at hl 0 rfl) ?_
  refine va_get (D := (dC, dI)) (ci := 8) (v := .int 0) (C := RX8) (T := TX8) (N := 10) hx hb hts hiX8 hown hK hP 0 rfl rfl 2 (by decide) (hts (.fieldLink RX8 41 "CakePapers$Scanner" "length" "I") (by decide +kernel)) (fun _ h9 => h9) (by simp [e_fs_2]) dX8_next_65 ?_
  refine lv_icmp_lt (tgt := 79) hx hb dX8_next_68 (by decide) (fun c_2 => absurd c_2 (by decide)) (fun c_2 => ?_)
  refine lv_aload_n hx hb dX8_next_71 rfl (lv_at hl 0 rfl) ?_
  refine lv_iconst (v := 1) hx hb dX8_next_72 (by decide) ?_
  refine va_put (D := (dC, dI)) (ci := 8) (v := .int 1) (ty := .int) (C := RX8) (T := TX8) (N := 10) hx hb hts hiX8 tyX8 tyX8_ok nmX8 hown hK hP hD hS 0 rfl rfl 4 (by decide) (hts (.fieldLink RX8 55 "CakePapers$Scanner" "kind" "I") (by decide +kernel)) (fun _ h9 => h9) rfl (by decide +kernel) rfl rfl (by simp [hn_fs]) dX8_next_73 (fun H locs hP hD hS => ?_)
  have hP : va_P (dC, dI) vwCl [(h0, .inr (8, (List.set (List.set fs 5 (.int 0)) 4 (.int 1))))] H := hP
  have hD : va_D A [(h0, .inr (8, (List.set (List.set fs 5 (.int 0)) 4 (.int 1))))] := hD
  refine lv_goto (tgt := 168) hx hb dX8_next_76 (by decide) ?_
  refine W.widen (k := 0) (n := 0) (Nat.le_of_ble_eq_true rfl) (Nat.le_of_ble_eq_true rfl) ?_
  have hP9 := hP.sub (ws' := [(h0, .inr (8, (List.set (List.set fs 5 (.int 0)) 4 (.int 1))))]) [0] rfl
  have hD9 := hD.sub (ws' := [(h0, .inr (8, (List.set (List.set fs 5 (.int 0)) 4 (.int 1))))]) [0] (by decide) rfl
  exact W.vret hx hb hr (fun t ht hW => ⟨⟨(), rfl, trivial, by rw [ht]; exact hP9, hD9⟩, hS.F ht⟩) hS.2.2 dX8_next_168
def u_c_X8_start : List Cond := .code yX8_start cX8_start 3 none :: ([.fieldLink RX8 15 "CakePapers$Scanner" "bytes" "[I", .methodLink RX8 35 Lib.Math.min.name, .static Lib.Math.min.name, .initialized "java/lang/Math", .code Lib.Math.min.name Lib.Math.min.code 2 (some .int), .fieldLink RX8 41 "CakePapers$Scanner" "length" "I", .fieldLink RX8 43 "CakePapers$Scanner" "at" "I", .fieldLink RX8 46 "CakePapers$Scanner" "fault" "I", .fieldLink RX8 19 "CakePapers$Scanner" "faultPlace" "I", .code yX8_next cX8_next 1 none, .fieldLink RX8 52 "CakePapers$Scanner" "place" "I", .fieldLink RX8 55 "CakePapers$Scanner" "kind" "I", .methodLink RX8 49 yX8_next, .instanceMethod yX8_next, .selects RX8 yX8_next yX8_next, .initialized RX8] ++ wsX80)
theorem iX8_c_X8_start : ∀ w ∈ wsX80, w ∈ u_c_X8_start := fun w h => List.mem_cons_of_mem _ (List.mem_append_right _ h)
set_option maxRecDepth 20000 in
theorem g_c_X8_start_c_X8_next_0 : GoodIn u_c_X8_start (wsV RX8 49 RX8 yX8_next u_c_X8_next) := goodIn_app (goodIn_of _ (by decide +kernel)) (goodIn_ca (goodIn_of (.code yX8_next cX8_next 1 none :: [.fieldLink RX8 43 "CakePapers$Scanner" "at" "I", .fieldLink RX8 41 "CakePapers$Scanner" "length" "I", .fieldLink RX8 52 "CakePapers$Scanner" "place" "I", .fieldLink RX8 55 "CakePapers$Scanner" "kind" "I"]) (by decide +kernel)) (goodIn_sub iX8_c_X8_start zgX8))
set_option maxHeartbeats 1000000 in
set_option maxRecDepth 100000 in
theorem c_X8_start (l : Launch) (dC : Nat → ClassId) (dI : Nat → Nat → Nat) (sz : Nat) (h0 h1 : Nat) (cI : ClassId) (f : Nat → Int32) (fs : List Value) (hn_fs : fs.length = 10) : Met l yX8_start u_c_X8_start ({ frames := 1, cells := 0, slots := 0, locals := 21 }) (va_Pc [.ref h0, .ref h1, .int 0] (fun U => U.heap.size = sz ∧ va_P (dC, dI) vwCl [(h0, .inr (8, fs)), (h1, .inl (cI, 1200, .inl f))] U.heap ∧ va_K (dC, dI) vwCl [(cI, .int)] U ∧ va_D (fun _ => True) [(h0, .inr (8, fs)), (h1, .inl (cI, 1200, .inl f))])) (va_Qv (fun (_ : Unit) => True) (fun _ t => va_P (dC, dI) vwCl [(h0, .inr (8, (List.set (List.set (List.set (List.set (List.set (List.set (List.set fs 1 (.ref h1)) 2 (.int 0)) 3 (.int 0)) 8 (.int 0)) 9 (.int (-1))) 5 (.int 0)) 4 (.int 1)))), (h1, .inl (cI, 1200, .inl f))] t.heap ∧ va_D (va_A [(h0, .inr (8, fs)), (h1, .inl (cI, 1200, .inl f))] sz) [(h0, .inr (8, (List.set (List.set (List.set (List.set (List.set (List.set (List.set fs 1 (.ref h1)) 2 (.int 0)) 3 (.int 0)) 8 (.int 0)) 9 (.int (-1))) 5 (.int 0)) 4 (.int 1)))), (h1, .inl (cI, 1200, .inl f))]) (va_A [(h0, .inr (8, fs)), (h1, .inl (cI, 1200, .inl f))] sz)) 0 0 (va_A [(h0, .inr (8, fs)), (h1, .inl (cI, 1200, .inl f))] sz) := by
  refine Met.ofW (cc := cX8_start) (maxL := 3) (ret := none) (by decide) rfl ?_
  intro p e s m args below meth c s₁ B hml hv
  obtain ⟨rfl, hsz, hP, hK, hD0⟩ := hv
  have hx := B.exec
  have hb := B.bytes
  have hr := B.returns
  have hts := atoms_spec (ws := u_c_X8_start) B.pre
  have hown : s.vm.findClass RX8 = some m.cls := findClass_of_methodNamed B.named
  have hlocks := B.notSynchronized
  have hiX8 := iX8_c_X8_start
  subst hsz
  have hD := hD0.self (sz := s.heap.size)
  generalize hAe : va_A [(h0, .inr (8, fs)), (h1, .inl (cI, 1200, .inl f))] s.heap.size = A at hD ⊢
  have hA : ∀ q : Nat, s.heap.size ≤ q → A q := fun q h => by rw [← hAe]; exact Or.inr h
  have hS : va_S A s.heap s.heap [] := va_S.rf
  obtain ⟨H, hH⟩ : ∃ H : Heap, H = s.heap := ⟨_, rfl⟩
  have hP : va_P (dC, dI) vwCl [(h0, .inr (8, fs)), (h1, .inl (cI, 1200, .inl f))] H := by rw [hH]; exact hP
  have hS : va_S A s.heap H [] := by rw [hH]; exact hS
  have hl := lv_entry ([.ref h0, .ref h1, .int 0]) (n := 3) (Nat.le_of_ble_eq_true rfl)
  rw [lg_entry_eq]
  generalize (lg_sl ([.ref h0, .ref h1, .int 0]) ++ List.replicate (3 - (lg_sl ([.ref h0, .ref h1, .int 0])).length) Slot.unset).toArray = ls at hl ⊢
  have hl : lv_has ls 3 [(0, .ref h0), (1, .ref h1), (2, .int 0)] := hl
  suffices h9 : W p l e (headSpec u_c_X8_start _).room s m _ below meth c H [] 0 0 _ (F0 m 0 ls []) by rw [hH] at h9; exact h9
  refine lv_aload_n hx hb dX8_start_0 rfl (lv_at hl 0 rfl) ?_
  refine lv_aload_n hx hb dX8_start_1 rfl (lv_at hl 1 rfl) ?_
  refine va_put (D := (dC, dI)) (ci := 8) (v := .ref h1) (ty := (.array .int)) (C := RX8) (T := TX8) (N := 10) hx hb hts hiX8 tyX8 tyX8_ok nmX8 hown hK hP hD hS 0 rfl rfl 1 (by decide) (hts (.fieldLink RX8 15 "CakePapers$Scanner" "bytes" "[I") (by decide +kernel)) (fun _ h9 => h9) rfl (by decide +kernel) rfl rfl (by simp [hn_fs]) dX8_start_2 (fun H locs hP hD hS => ?_)
  have hP : va_P (dC, dI) vwCl [(h0, .inr (8, (List.set fs 1 (.ref h1)))), (h1, .inl (cI, 1200, .inl f))] H := hP
  have hD : va_D A [(h0, .inr (8, (List.set fs 1 (.ref h1)))), (h1, .inl (cI, 1200, .inl f))] := hD
  refine lv_aload_n hx hb dX8_start_5 rfl (lv_at hl 0 rfl) ?_
  refine lv_iload_n hx hb dX8_start_6 rfl (lv_at hl 2 rfl) ?_
  refine lv_aload_n hx hb dX8_start_7 rfl (lv_at hl 1 rfl) ?_
  refine va_alen (v := 1200) hx hb hK hP 1 0 rfl rfl rfl dX8_start_8 ?_
  refine va_mmin hx hb (by rw [hml]; exact hl.1.symm) hown (hts (.methodLink RX8 35 Lib.Math.min.name) (by decide +kernel)) (hts (.static Lib.Math.min.name) (by decide +kernel)) (hts (.initialized "java/lang/Math") (by decide +kernel)) (hts (.code Lib.Math.min.name Lib.Math.min.code 2 (some .int)) (by decide +kernel)) (Nat.le_of_ble_eq_true rfl) (Nat.le_of_ble_eq_true rfl) (Nat.le_of_ble_eq_true rfl) (Nat.le_of_ble_eq_true rfl) dX8_start_9 ?_
  refine zz_ci (y := 0) (by decide) ?_
  refine va_put (D := (dC, dI)) (ci := 8) (v := .int 0) (ty := .int) (C := RX8) (T := TX8) (N := 10) hx hb hts hiX8 tyX8 tyX8_ok nmX8 hown hK hP hD hS 0 rfl rfl 2 (by decide) (hts (.fieldLink RX8 41 "CakePapers$Scanner" "length" "I") (by decide +kernel)) (fun _ h9 => h9) rfl (by decide +kernel) rfl rfl (by simp [hn_fs]) dX8_start_12 (fun H locs hP hD hS => ?_)
  have hP : va_P (dC, dI) vwCl [(h0, .inr (8, (List.set (List.set fs 1 (.ref h1)) 2 (.int 0)))), (h1, .inl (cI, 1200, .inl f))] H := hP
  have hD : va_D A [(h0, .inr (8, (List.set (List.set fs 1 (.ref h1)) 2 (.int 0)))), (h1, .inl (cI, 1200, .inl f))] := hD
  refine lv_aload_n hx hb dX8_start_15 rfl (lv_at hl 0 rfl) ?_
  refine lv_iconst (v := 0) hx hb dX8_start_16 (by decide) ?_
  refine va_put (D := (dC, dI)) (ci := 8) (v := .int 0) (ty := .int) (C := RX8) (T := TX8) (N := 10) hx hb hts hiX8 tyX8 tyX8_ok nmX8 hown hK hP hD hS 0 rfl rfl 3 (by decide) (hts (.fieldLink RX8 43 "CakePapers$Scanner" "at" "I") (by decide +kernel)) (fun _ h9 => h9) rfl (by decide +kernel) rfl rfl (by simp [hn_fs]) dX8_start_17 (fun H locs hP hD hS => ?_)
  have hP : va_P (dC, dI) vwCl [(h0, .inr (8, (List.set (List.set (List.set fs 1 (.ref h1)) 2 (.int 0)) 3 (.int 0)))), (h1, .inl (cI, 1200, .inl f))] H := hP
  have hD : va_D A [(h0, .inr (8, (List.set (List.set (List.set fs 1 (.ref h1)) 2 (.int 0)) 3 (.int 0)))), (h1, .inl (cI, 1200, .inl f))] := hD
  refine lv_aload_n hx hb dX8_start_20 rfl (lv_at hl 0 rfl) ?_
  refine lv_iconst (v := 0) hx hb dX8_start_21 (by decide) ?_
  refine va_put (D := (dC, dI)) (ci := 8) (v := .int 0) (ty := .int) (C := RX8) (T := TX8) (N := 10) hx hb hts hiX8 tyX8 tyX8_ok nmX8 hown hK hP hD hS 0 rfl rfl 8 (by decide) (hts (.fieldLink RX8 46 "CakePapers$Scanner" "fault" "I") (by decide +kernel)) (fun _ h9 => h9) rfl (by decide +kernel) rfl rfl (by simp [hn_fs]) dX8_start_22 (fun H locs hP hD hS => ?_)
  have hP : va_P (dC, dI) vwCl [(h0, .inr (8, (List.set (List.set (List.set (List.set fs 1 (.ref h1)) 2 (.int 0)) 3 (.int 0)) 8 (.int 0)))), (h1, .inl (cI, 1200, .inl f))] H := hP
  have hD : va_D A [(h0, .inr (8, (List.set (List.set (List.set (List.set fs 1 (.ref h1)) 2 (.int 0)) 3 (.int 0)) 8 (.int 0)))), (h1, .inl (cI, 1200, .inl f))] := hD
  refine lv_aload_n hx hb dX8_start_25 rfl (lv_at hl 0 rfl) ?_
  refine lv_iconst (v := (-1)) hx hb dX8_start_26 (by decide) ?_
  refine va_put (D := (dC, dI)) (ci := 8) (v := .int (-1)) (ty := .int) (C := RX8) (T := TX8) (N := 10) hx hb hts hiX8 tyX8 tyX8_ok nmX8 hown hK hP hD hS 0 rfl rfl 9 (by decide) (hts (.fieldLink RX8 19 "CakePapers$Scanner" "faultPlace" "I") (by decide +kernel)) (fun _ h9 => h9) rfl (by decide +kernel) rfl rfl (by simp [hn_fs]) dX8_start_27 (fun H locs hP hD hS => ?_)
  have hP : va_P (dC, dI) vwCl [(h0, .inr (8, (List.set (List.set (List.set (List.set (List.set fs 1 (.ref h1)) 2 (.int 0)) 3 (.int 0)) 8 (.int 0)) 9 (.int (-1))))), (h1, .inl (cI, 1200, .inl f))] H := hP
  have hD : va_D A [(h0, .inr (8, (List.set (List.set (List.set (List.set (List.set fs 1 (.ref h1)) 2 (.int 0)) 3 (.int 0)) 8 (.int 0)) 9 (.int (-1))))), (h1, .inl (cI, 1200, .inl f))] := hD
  refine lv_aload_n hx hb dX8_start_30 rfl (lv_at hl 0 rfl) ?_
  have hPc := hP.sub (ws' := [(h0, .inr (8, (List.set (List.set (List.set (List.set (List.set fs 1 (.ref h1)) 2 (.int 0)) 3 (.int 0)) 8 (.int 0)) 9 (.int (-1)))))]) [0] rfl
  have hDc := hD.sub (ws' := [(h0, .inr (8, (List.set (List.set (List.set (List.set (List.set fs 1 (.ref h1)) 2 (.int 0)) 3 (.int 0)) 8 (.int 0)) 9 (.int (-1)))))]) [0] (by decide) rfl
  have hKc := hK.sub (tys' := []) [] rfl
  have hFc := va_free (wc := [(h0, .inr (8, (List.set (List.set (List.set (List.set (List.set fs 1 (.ref h1)) 2 (.int 0)) 3 (.int 0)) 8 (.int 0)) 9 (.int (-1)))))]) hD hS hA [0] rfl
  refine va_callv (va_runV (As := []) (rest := []) ⟨hx, hb, hml, hown, hts⟩ (c_X8_next l dC dI H.size h0 (List.set (List.set (List.set (List.set (List.set fs 1 (.ref h1)) 2 (.int 0)) 3 (.int 0)) 8 (.int 0)) 9 (.int (-1))) (by simp [hn_fs]) (by simp [hn_fs]) (by simp [hn_fs])) (cwV 0 hts g_c_X8_start_c_X8_next_0 rfl rfl rfl (by decide +kernel) ⟨Nat.le_of_ble_eq_true rfl, Nat.le_of_ble_eq_true rfl⟩) ⟨fun a U g mk q => by obtain ⟨q0, q1, qP, qK, qD⟩ := q; exact ⟨q0, q1, qP, va_K.moved (u := U) (U := U.calling g mk a) (Vm.Alike.refl U.vm) qK, qD⟩, va_recv hKc hPc (ci := 8) (q0 := 0) rfl rfl, fun U hU hW => ⟨rfl, by rw [hU], by rw [hU]; exact hPc, va_K.moved hW.alike hKc, hDc.weaken (fun _ _ _ _ => trivial)⟩⟩ rfl rfl hl.1 rfl (lv_room (Nat.le_of_ble_eq_true rfl)) dX8_start_31 ⟨Nat.le_of_ble_eq_true rfl, Nat.le_of_ble_eq_true rfl⟩) hS (fun q _ h => hFc q h) hFc (fun u t H1 locs ht hvm hw hB hz1 hk1 hS => ?_)
  obtain ⟨hP1, hD1⟩ := hB
  rw [ht] at hP1
  obtain ⟨hP, hD⟩ := va_join (wr := [(h1, .inl (cI, 1200, .inl f))]) (w1 := [(h0, .inr (8, (List.set (List.set (List.set (List.set (List.set (List.set (List.set fs 1 (.ref h1)) 2 (.int 0)) 3 (.int 0)) 8 (.int 0)) 9 (.int (-1))) 5 (.int 0)) 4 (.int 1))))]) hP hD [0] [1] rfl rfl (by decide) (by decide) hk1 hFc hP1 hD1
  generalize H1 = H at hP hS ⊢
  have hP : va_P (dC, dI) vwCl [(h1, .inl (cI, 1200, .inl f)), (h0, .inr (8, (List.set (List.set (List.set (List.set (List.set (List.set (List.set fs 1 (.ref h1)) 2 (.int 0)) 3 (.int 0)) 8 (.int 0)) 9 (.int (-1))) 5 (.int 0)) 4 (.int 1))))] H := hP
  have hD : va_D A [(h1, .inl (cI, 1200, .inl f)), (h0, .inr (8, (List.set (List.set (List.set (List.set (List.set (List.set (List.set fs 1 (.ref h1)) 2 (.int 0)) 3 (.int 0)) 8 (.int 0)) 9 (.int (-1))) 5 (.int 0)) 4 (.int 1))))] := hD
  refine W.widen (k := 0) (n := 0) (Nat.le_of_ble_eq_true rfl) (Nat.le_of_ble_eq_true rfl) ?_
  refine W.widen (k := 0) (n := 0) (Nat.le_of_ble_eq_true rfl) (Nat.le_of_ble_eq_true rfl) ?_
  have hP9 := hP.sub (ws' := [(h0, .inr (8, (List.set (List.set (List.set (List.set (List.set (List.set (List.set fs 1 (.ref h1)) 2 (.int 0)) 3 (.int 0)) 8 (.int 0)) 9 (.int (-1))) 5 (.int 0)) 4 (.int 1)))), (h1, .inl (cI, 1200, .inl f))]) [1, 0] rfl
  have hD9 := hD.sub (ws' := [(h0, .inr (8, (List.set (List.set (List.set (List.set (List.set (List.set (List.set fs 1 (.ref h1)) 2 (.int 0)) 3 (.int 0)) 8 (.int 0)) 9 (.int (-1))) 5 (.int 0)) 4 (.int 1)))), (h1, .inl (cI, 1200, .inl f))]) [1, 0] (by decide) rfl
  exact W.vret hx hb hr (fun t ht hW => ⟨⟨(), rfl, trivial, by rw [ht]; exact hP9, hD9⟩, hS.F ht⟩) hS.2.2 dX8_start_34
def u_c_X8_blame : List Cond := .code yX8_blame cX8_blame 2 (some .boolean) :: ([.fieldLink RX8 46 "CakePapers$Scanner" "fault" "I", .fieldLink RX8 52 "CakePapers$Scanner" "place" "I", .fieldLink RX8 19 "CakePapers$Scanner" "faultPlace" "I"] ++ wsX80)
theorem iX8_c_X8_blame : ∀ w ∈ wsX80, w ∈ u_c_X8_blame := fun w h => List.mem_cons_of_mem _ (List.mem_append_right _ h)
set_option maxHeartbeats 1000000 in
set_option maxRecDepth 100000 in
theorem c_X8_blame (l : Launch) (dC : Nat → ClassId) (dI : Nat → Nat → Nat) (sz : Nat) (h0 : Nat) (fs : List Value) (hn_fs : fs.length = 10) (e_fs_5 : fs[5]? = some (.int 0)) : Met l yX8_blame u_c_X8_blame ({ frames := 0, cells := 0, slots := 0, locals := 0 }) (va_Pc [.ref h0, .int 2] (fun U => U.heap.size = sz ∧ va_P (dC, dI) vwCl [(h0, .inr (8, fs))] U.heap ∧ va_K (dC, dI) vwCl [] U ∧ va_D (fun _ => True) [(h0, .inr (8, fs))])) (va_Qi (fun (r : Int32) (_ : Unit) => r = 0) (fun _ t => va_P (dC, dI) vwCl [(h0, .inr (8, (List.set (List.set fs 8 (.int 2)) 9 (.int 0))))] t.heap ∧ va_D (va_A [(h0, .inr (8, fs))] sz) [(h0, .inr (8, (List.set (List.set fs 8 (.int 2)) 9 (.int 0))))]) (va_A [(h0, .inr (8, fs))] sz)) 0 0 (va_A [(h0, .inr (8, fs))] sz) := by
  refine Met.ofW (cc := cX8_blame) (maxL := 2) (ret := (some .boolean)) (by decide) rfl ?_
  intro p e s m args below meth c s₁ B hml hv
  obtain ⟨rfl, hsz, hP, hK, hD0⟩ := hv
  have hx := B.exec
  have hb := B.bytes
  have hr := B.returns
  have hts := atoms_spec (ws := u_c_X8_blame) B.pre
  have hown : s.vm.findClass RX8 = some m.cls := findClass_of_methodNamed B.named
  have hlocks := B.notSynchronized
  have hiX8 := iX8_c_X8_blame
  subst hsz
  have hD := hD0.self (sz := s.heap.size)
  generalize hAe : va_A [(h0, .inr (8, fs))] s.heap.size = A at hD ⊢
  have hA : ∀ q : Nat, s.heap.size ≤ q → A q := fun q h => by rw [← hAe]; exact Or.inr h
  have hS : va_S A s.heap s.heap [] := va_S.rf
  obtain ⟨H, hH⟩ : ∃ H : Heap, H = s.heap := ⟨_, rfl⟩
  have hP : va_P (dC, dI) vwCl [(h0, .inr (8, fs))] H := by rw [hH]; exact hP
  have hS : va_S A s.heap H [] := by rw [hH]; exact hS
  have hl := lv_entry ([.ref h0, .int 2]) (n := 2) (Nat.le_of_ble_eq_true rfl)
  rw [lg_entry_eq]
  generalize (lg_sl ([.ref h0, .int 2]) ++ List.replicate (2 - (lg_sl ([.ref h0, .int 2])).length) Slot.unset).toArray = ls at hl ⊢
  have hl : lv_has ls 2 [(0, .ref h0), (1, .int 2)] := hl
  suffices h9 : W p l e (headSpec u_c_X8_blame _).room s m _ below meth c H [] 0 0 _ (F0 m 0 ls []) by rw [hH] at h9; exact h9
  refine lv_aload_n hx hb dX8_blame_0 rfl (lv_at hl 0 rfl) ?_
  refine lv_iload_n hx hb dX8_blame_1 rfl (lv_at hl 1 rfl) ?_
  refine va_put (D := (dC, dI)) (ci := 8) (v := .int 2) (ty := .int) (C := RX8) (T := TX8) (N := 10) hx hb hts hiX8 tyX8 tyX8_ok nmX8 hown hK hP hD hS 0 rfl rfl 8 (by decide) (hts (.fieldLink RX8 46 "CakePapers$Scanner" "fault" "I") (by decide +kernel)) (fun _ h9 => h9) rfl (by decide +kernel) rfl rfl (by simp [hn_fs]) dX8_blame_2 (fun H locs hP hD hS => ?_)
  have hP : va_P (dC, dI) vwCl [(h0, .inr (8, (List.set fs 8 (.int 2))))] H := hP
  have hD : va_D A [(h0, .inr (8, (List.set fs 8 (.int 2))))] := hD
  refine lv_aload_n hx hb dX8_blame_5 rfl (lv_at hl 0 rfl) ?_
  refine lv_aload_n hx hb dX8_blame_6 rfl (lv_at hl 0 rfl) ?_
  refine va_get (D := (dC, dI)) (ci := 8) (v := .int 0) (C := RX8) (T := TX8) (N := 10) hx hb hts hiX8 hown hK hP 0 rfl rfl 5 (by decide) (hts (.fieldLink RX8 52 "CakePapers$Scanner" "place" "I") (by decide +kernel)) (fun _ h9 => h9) (by simp [e_fs_5]) dX8_blame_7 ?_
  refine va_put (D := (dC, dI)) (ci := 8) (v := .int 0) (ty := .int) (C := RX8) (T := TX8) (N := 10) hx hb hts hiX8 tyX8 tyX8_ok nmX8 hown hK hP hD hS 0 rfl rfl 9 (by decide) (hts (.fieldLink RX8 19 "CakePapers$Scanner" "faultPlace" "I") (by decide +kernel)) (fun _ h9 => h9) rfl (by decide +kernel) rfl rfl (by simp [hn_fs]) dX8_blame_10 (fun H locs hP hD hS => ?_)
  have hP : va_P (dC, dI) vwCl [(h0, .inr (8, (List.set (List.set fs 8 (.int 2)) 9 (.int 0))))] H := hP
  have hD : va_D A [(h0, .inr (8, (List.set (List.set fs 8 (.int 2)) 9 (.int 0))))] := hD
  refine lv_iconst (v := 0) hx hb dX8_blame_13 (by decide) ?_
  refine W.widen (k := 0) (n := 0) (Nat.le_of_ble_eq_true rfl) (Nat.le_of_ble_eq_true rfl) ?_
  have hP9 := hP.sub (ws' := [(h0, .inr (8, (List.set (List.set fs 8 (.int 2)) 9 (.int 0))))]) [0] rfl
  have hD9 := hD.sub (ws' := [(h0, .inr (8, (List.set (List.set fs 8 (.int 2)) 9 (.int 0))))]) [0] (by decide) rfl
  exact W.zret (v := 0) hx hb hr (rfl) (fun t ht hW => ⟨⟨0, (), rfl, rfl, by rw [ht]; exact hP9, hD9⟩, hS.F ht⟩) hS.2.2 dX8_blame_14
def u_c_X8_refuse : List Cond := .code yX8_refuse cX8_refuse 1 (some .boolean) :: ([.fieldLink RX8 55 "CakePapers$Scanner" "kind" "I", .code yX8_blame cX8_blame 2 (some .boolean), .fieldLink RX8 46 "CakePapers$Scanner" "fault" "I", .fieldLink RX8 52 "CakePapers$Scanner" "place" "I", .fieldLink RX8 19 "CakePapers$Scanner" "faultPlace" "I", .methodLink RX8 84 yX8_blame, .instanceMethod yX8_blame, .selects RX8 yX8_blame yX8_blame, .initialized RX8] ++ wsX80)
theorem iX8_c_X8_refuse : ∀ w ∈ wsX80, w ∈ u_c_X8_refuse := fun w h => List.mem_cons_of_mem _ (List.mem_append_right _ h)
set_option maxRecDepth 20000 in
theorem g_c_X8_refuse_c_X8_blame_0 : GoodIn u_c_X8_refuse (wsV RX8 84 RX8 yX8_blame u_c_X8_blame) := goodIn_app (goodIn_of _ (by decide +kernel)) (goodIn_ca (goodIn_of (.code yX8_blame cX8_blame 2 (some .boolean) :: [.fieldLink RX8 46 "CakePapers$Scanner" "fault" "I", .fieldLink RX8 52 "CakePapers$Scanner" "place" "I", .fieldLink RX8 19 "CakePapers$Scanner" "faultPlace" "I"]) (by decide +kernel)) (goodIn_sub iX8_c_X8_refuse zgX8))
set_option maxHeartbeats 1000000 in
set_option maxRecDepth 100000 in
theorem c_X8_refuse (l : Launch) (dC : Nat → ClassId) (dI : Nat → Nat → Nat) (sz : Nat) (h0 : Nat) (fs : List Value) (hn_fs : fs.length = 10) (e_fs_4 : fs[4]? = some (.int 1)) (e_fs_5 : fs[5]? = some (.int 0)) : Met l yX8_refuse u_c_X8_refuse ({ frames := 1, cells := 0, slots := 0, locals := 21 }) (va_Pc [.ref h0] (fun U => U.heap.size = sz ∧ va_P (dC, dI) vwCl [(h0, .inr (8, fs))] U.heap ∧ va_K (dC, dI) vwCl [] U ∧ va_D (fun _ => True) [(h0, .inr (8, fs))])) (va_Qi (fun (r : Int32) (_ : Unit) => r = 0) (fun _ t => va_P (dC, dI) vwCl [(h0, .inr (8, (List.set (List.set fs 8 (.int 2)) 9 (.int 0))))] t.heap ∧ va_D (va_A [(h0, .inr (8, fs))] sz) [(h0, .inr (8, (List.set (List.set fs 8 (.int 2)) 9 (.int 0))))]) (va_A [(h0, .inr (8, fs))] sz)) 0 0 (va_A [(h0, .inr (8, fs))] sz) := by
  refine Met.ofW (cc := cX8_refuse) (maxL := 1) (ret := (some .boolean)) (by decide) rfl ?_
  intro p e s m args below meth c s₁ B hml hv
  obtain ⟨rfl, hsz, hP, hK, hD0⟩ := hv
  have hx := B.exec
  have hb := B.bytes
  have hr := B.returns
  have hts := atoms_spec (ws := u_c_X8_refuse) B.pre
  have hown : s.vm.findClass RX8 = some m.cls := findClass_of_methodNamed B.named
  have hlocks := B.notSynchronized
  have hiX8 := iX8_c_X8_refuse
  subst hsz
  have hD := hD0.self (sz := s.heap.size)
  generalize hAe : va_A [(h0, .inr (8, fs))] s.heap.size = A at hD ⊢
  have hA : ∀ q : Nat, s.heap.size ≤ q → A q := fun q h => by rw [← hAe]; exact Or.inr h
  have hS : va_S A s.heap s.heap [] := va_S.rf
  obtain ⟨H, hH⟩ : ∃ H : Heap, H = s.heap := ⟨_, rfl⟩
  have hP : va_P (dC, dI) vwCl [(h0, .inr (8, fs))] H := by rw [hH]; exact hP
  have hS : va_S A s.heap H [] := by rw [hH]; exact hS
  have hl := lv_entry ([.ref h0]) (n := 1) (Nat.le_of_ble_eq_true rfl)
  rw [lg_entry_eq]
  generalize (lg_sl ([.ref h0]) ++ List.replicate (1 - (lg_sl ([.ref h0])).length) Slot.unset).toArray = ls at hl ⊢
  have hl : lv_has ls 1 [(0, .ref h0)] := hl
  suffices h9 : W p l e (headSpec u_c_X8_refuse _).room s m _ below meth c H [] 0 0 _ (F0 m 0 ls []) by rw [hH] at h9; exact h9
  refine lv_aload_n hx hb dX8_refuse_0 rfl (lv_at hl 0 rfl) ?_
  refine lv_aload_n hx hb dX8_refuse_1 rfl (lv_at hl 0 rfl) ?_
  refine va_get (D := (dC, dI)) (ci := 8) (v := .int 1) (C := RX8) (T := TX8) (N := 10) hx hb hts hiX8 hown hK hP 0 rfl rfl 4 (by decide) (hts (.fieldLink RX8 55 "CakePapers$Scanner" "kind" "I") (by decide +kernel)) (fun _ h9 => h9) e_fs_4 dX8_refuse_2 ?_
  refine lv_if_ne (tgt := 12) hx hb dX8_refuse_5 (by decide) (fun c_1 => ?_) (fun c_1 => absurd c_1 (by decide))
  refine lv_iconst (v := 2) hx hb dX8_refuse_12 (by decide) ?_
  have hPc := hP.sub (ws' := [(h0, .inr (8, fs))]) [0] rfl
  have hDc := hD.sub (ws' := [(h0, .inr (8, fs))]) [0] (by decide) rfl
  have hKc := hK.sub (tys' := []) [] rfl
  have hFc := va_free (wc := [(h0, .inr (8, fs))]) hD hS hA [0] rfl
  refine va_calli (va_runV (As := [.int 2]) (rest := []) ⟨hx, hb, hml, hown, hts⟩ (c_X8_blame l dC dI H.size h0 fs hn_fs e_fs_5) (cwV 1 hts g_c_X8_refuse_c_X8_blame_0 rfl rfl rfl (by decide +kernel) ⟨Nat.le_of_ble_eq_true rfl, Nat.le_of_ble_eq_true rfl⟩) ⟨fun a U g mk q => by obtain ⟨q0, q1, qP, qK, qD⟩ := q; exact ⟨q0, q1, qP, va_K.moved (u := U) (U := U.calling g mk a) (Vm.Alike.refl U.vm) qK, qD⟩, va_recv hKc hPc (ci := 8) (q0 := 0) rfl rfl, fun U hU hW => ⟨rfl, by rw [hU], by rw [hU]; exact hPc, va_K.moved hW.alike hKc, hDc.weaken (fun _ _ _ _ => trivial)⟩⟩ rfl rfl hl.1 rfl (lv_room (Nat.le_of_ble_eq_true rfl)) dX8_refuse_13 ⟨Nat.le_of_ble_eq_true rfl, Nat.le_of_ble_eq_true rfl⟩) hS (fun q _ h => hFc q h) hFc (fun r_2 u t H1 locs ht hvm hw hB hz1 hk1 hS => ?_)
  obtain ⟨hP1, hD1⟩ := hB
  rw [ht] at hP1
  obtain ⟨hP, hD⟩ := va_join (wr := []) (w1 := [(h0, .inr (8, (List.set (List.set fs 8 (.int 2)) 9 (.int 0))))]) hP hD [0] [] rfl rfl (by decide) (by decide) hk1 hFc hP1 hD1
  generalize H1 = H at hP hS ⊢
  have hP : va_P (dC, dI) vwCl [(h0, .inr (8, (List.set (List.set fs 8 (.int 2)) 9 (.int 0))))] H := hP
  have hD : va_D A [(h0, .inr (8, (List.set (List.set fs 8 (.int 2)) 9 (.int 0))))] := hD
  refine W.widen (k := 0) (n := 0) (Nat.le_of_ble_eq_true rfl) (Nat.le_of_ble_eq_true rfl) ?_
  refine zz_ci (y := 0) hw ?_
  refine W.widen (k := 0) (n := 0) (Nat.le_of_ble_eq_true rfl) (Nat.le_of_ble_eq_true rfl) ?_
  have hP9 := hP.sub (ws' := [(h0, .inr (8, (List.set (List.set fs 8 (.int 2)) 9 (.int 0))))]) [0] rfl
  have hD9 := hD.sub (ws' := [(h0, .inr (8, (List.set (List.set fs 8 (.int 2)) 9 (.int 0))))]) [0] (by decide) rfl
  exact W.zret (v := 0) hx hb hr (rfl) (fun t ht hW => ⟨⟨0, (), rfl, rfl, by rw [ht]; exact hP9, hD9⟩, hS.F ht⟩) hS.2.2 dX8_refuse_16
def u_c_X8_pass : List Cond := .code yX8_pass cX8_pass 2 (some .boolean) :: ([.fieldLink RX8 55 "CakePapers$Scanner" "kind" "I", .code yX8_refuse cX8_refuse 1 (some .boolean), .code yX8_blame cX8_blame 2 (some .boolean), .fieldLink RX8 46 "CakePapers$Scanner" "fault" "I", .fieldLink RX8 52 "CakePapers$Scanner" "place" "I", .fieldLink RX8 19 "CakePapers$Scanner" "faultPlace" "I", .methodLink RX8 84 yX8_blame, .instanceMethod yX8_blame, .selects RX8 yX8_blame yX8_blame, .initialized RX8, .methodLink RX8 87 yX8_refuse, .instanceMethod yX8_refuse, .selects RX8 yX8_refuse yX8_refuse] ++ wsX80)
theorem iX8_c_X8_pass : ∀ w ∈ wsX80, w ∈ u_c_X8_pass := fun w h => List.mem_cons_of_mem _ (List.mem_append_right _ h)
set_option maxRecDepth 20000 in
theorem g_c_X8_pass_c_X8_refuse_0 : GoodIn u_c_X8_pass (wsV RX8 87 RX8 yX8_refuse u_c_X8_refuse) := goodIn_app (goodIn_of _ (by decide +kernel)) (goodIn_ca (goodIn_of (.code yX8_refuse cX8_refuse 1 (some .boolean) :: [.fieldLink RX8 55 "CakePapers$Scanner" "kind" "I", .code yX8_blame cX8_blame 2 (some .boolean), .fieldLink RX8 46 "CakePapers$Scanner" "fault" "I", .fieldLink RX8 52 "CakePapers$Scanner" "place" "I", .fieldLink RX8 19 "CakePapers$Scanner" "faultPlace" "I", .methodLink RX8 84 yX8_blame, .instanceMethod yX8_blame, .selects RX8 yX8_blame yX8_blame, .initialized RX8]) (by decide +kernel)) (goodIn_sub iX8_c_X8_pass zgX8))
set_option maxHeartbeats 1000000 in
set_option maxRecDepth 100000 in
theorem c_X8_pass (l : Launch) (dC : Nat → ClassId) (dI : Nat → Nat → Nat) (sz : Nat) (h0 : Nat) (fs : List Value) (hn_fs : fs.length = 10) (e_fs_4 : fs[4]? = some (.int 1)) (e_fs_5 : fs[5]? = some (.int 0)) : Met l yX8_pass u_c_X8_pass ({ frames := 2, cells := 0, slots := 0, locals := 41 }) (va_Pc [.ref h0, .int 106] (fun U => U.heap.size = sz ∧ va_P (dC, dI) vwCl [(h0, .inr (8, fs))] U.heap ∧ va_K (dC, dI) vwCl [] U ∧ va_D (fun _ => True) [(h0, .inr (8, fs))])) (va_Qi (fun (r : Int32) (_ : Unit) => r = 0) (fun _ t => va_P (dC, dI) vwCl [(h0, .inr (8, (List.set (List.set fs 8 (.int 2)) 9 (.int 0))))] t.heap ∧ va_D (va_A [(h0, .inr (8, fs))] sz) [(h0, .inr (8, (List.set (List.set fs 8 (.int 2)) 9 (.int 0))))]) (va_A [(h0, .inr (8, fs))] sz)) 0 0 (va_A [(h0, .inr (8, fs))] sz) := by
  refine Met.ofW (cc := cX8_pass) (maxL := 2) (ret := (some .boolean)) (by decide) rfl ?_
  intro p e s m args below meth c s₁ B hml hv
  obtain ⟨rfl, hsz, hP, hK, hD0⟩ := hv
  have hx := B.exec
  have hb := B.bytes
  have hr := B.returns
  have hts := atoms_spec (ws := u_c_X8_pass) B.pre
  have hown : s.vm.findClass RX8 = some m.cls := findClass_of_methodNamed B.named
  have hlocks := B.notSynchronized
  have hiX8 := iX8_c_X8_pass
  subst hsz
  have hD := hD0.self (sz := s.heap.size)
  generalize hAe : va_A [(h0, .inr (8, fs))] s.heap.size = A at hD ⊢
  have hA : ∀ q : Nat, s.heap.size ≤ q → A q := fun q h => by rw [← hAe]; exact Or.inr h
  have hS : va_S A s.heap s.heap [] := va_S.rf
  obtain ⟨H, hH⟩ : ∃ H : Heap, H = s.heap := ⟨_, rfl⟩
  have hP : va_P (dC, dI) vwCl [(h0, .inr (8, fs))] H := by rw [hH]; exact hP
  have hS : va_S A s.heap H [] := by rw [hH]; exact hS
  have hl := lv_entry ([.ref h0, .int 106]) (n := 2) (Nat.le_of_ble_eq_true rfl)
  rw [lg_entry_eq]
  generalize (lg_sl ([.ref h0, .int 106]) ++ List.replicate (2 - (lg_sl ([.ref h0, .int 106])).length) Slot.unset).toArray = ls at hl ⊢
  have hl : lv_has ls 2 [(0, .ref h0), (1, .int 106)] := hl
  suffices h9 : W p l e (headSpec u_c_X8_pass _).room s m _ below meth c H [] 0 0 _ (F0 m 0 ls []) by rw [hH] at h9; exact h9
  refine lv_aload_n hx hb dX8_pass_0 rfl (lv_at hl 0 rfl) ?_
  refine va_get (D := (dC, dI)) (ci := 8) (v := .int 1) (C := RX8) (T := TX8) (N := 10) hx hb hts hiX8 hown hK hP 0 rfl rfl 4 (by decide) (hts (.fieldLink RX8 55 "CakePapers$Scanner" "kind" "I") (by decide +kernel)) (fun _ h9 => h9) e_fs_4 dX8_pass_1 ?_
  refine lv_iload_n hx hb dX8_pass_4 rfl (lv_at hl 1 rfl) ?_
  refine lv_icmp_eq (tgt := 13) hx hb dX8_pass_5 (by decide) (fun c_1 => absurd c_1 (by decide)) (fun c_1 => ?_)
  refine lv_aload_n hx hb dX8_pass_8 rfl (lv_at hl 0 rfl) ?_
  have hPc := hP.sub (ws' := [(h0, .inr (8, fs))]) [0] rfl
  have hDc := hD.sub (ws' := [(h0, .inr (8, fs))]) [0] (by decide) rfl
  have hKc := hK.sub (tys' := []) [] rfl
  have hFc := va_free (wc := [(h0, .inr (8, fs))]) hD hS hA [0] rfl
  refine va_calli (va_runV (As := []) (rest := []) ⟨hx, hb, hml, hown, hts⟩ (c_X8_refuse l dC dI H.size h0 fs hn_fs e_fs_4 e_fs_5) (cwV 0 hts g_c_X8_pass_c_X8_refuse_0 rfl rfl rfl (by decide +kernel) ⟨Nat.le_of_ble_eq_true rfl, Nat.le_of_ble_eq_true rfl⟩) ⟨fun a U g mk q => by obtain ⟨q0, q1, qP, qK, qD⟩ := q; exact ⟨q0, q1, qP, va_K.moved (u := U) (U := U.calling g mk a) (Vm.Alike.refl U.vm) qK, qD⟩, va_recv hKc hPc (ci := 8) (q0 := 0) rfl rfl, fun U hU hW => ⟨rfl, by rw [hU], by rw [hU]; exact hPc, va_K.moved hW.alike hKc, hDc.weaken (fun _ _ _ _ => trivial)⟩⟩ rfl rfl hl.1 rfl (lv_room (Nat.le_of_ble_eq_true rfl)) dX8_pass_9 ⟨Nat.le_of_ble_eq_true rfl, Nat.le_of_ble_eq_true rfl⟩) hS (fun q _ h => hFc q h) hFc (fun r_2 u t H1 locs ht hvm hw hB hz1 hk1 hS => ?_)
  obtain ⟨hP1, hD1⟩ := hB
  rw [ht] at hP1
  obtain ⟨hP, hD⟩ := va_join (wr := []) (w1 := [(h0, .inr (8, (List.set (List.set fs 8 (.int 2)) 9 (.int 0))))]) hP hD [0] [] rfl rfl (by decide) (by decide) hk1 hFc hP1 hD1
  generalize H1 = H at hP hS ⊢
  have hP : va_P (dC, dI) vwCl [(h0, .inr (8, (List.set (List.set fs 8 (.int 2)) 9 (.int 0))))] H := hP
  have hD : va_D A [(h0, .inr (8, (List.set (List.set fs 8 (.int 2)) 9 (.int 0))))] := hD
  refine W.widen (k := 0) (n := 0) (Nat.le_of_ble_eq_true rfl) (Nat.le_of_ble_eq_true rfl) ?_
  refine zz_ci (y := 0) hw ?_
  refine W.widen (k := 0) (n := 0) (Nat.le_of_ble_eq_true rfl) (Nat.le_of_ble_eq_true rfl) ?_
  have hP9 := hP.sub (ws' := [(h0, .inr (8, (List.set (List.set fs 8 (.int 2)) 9 (.int 0))))]) [0] rfl
  have hD9 := hD.sub (ws' := [(h0, .inr (8, (List.set (List.set fs 8 (.int 2)) 9 (.int 0))))]) [0] (by decide) rfl
  exact W.zret (v := 0) hx hb hr (rfl) (fun t ht hW => ⟨⟨0, (), rfl, rfl, by rw [ht]; exact hP9, hD9⟩, hS.F ht⟩) hS.2.2 dX8_pass_12
def u_c_X6_workOut : List Cond := .code yX6_workOut cX6_workOut 2 none :: ([.fieldLink RX6 65 "CakePapers$Paper" "ends" "I", .fieldLink RX6 68 "CakePapers$Paper" "path" "I", .fieldLink RX6 71 "CakePapers$Paper" "allMuch" "I", .fieldLink RX6 74 "CakePapers$Paper" "allLong" "I", .fieldLink RX6 47 "CakePapers$Paper" "steps" "I"] ++ wsX60)
theorem iX6_c_X6_workOut : ∀ w ∈ wsX60, w ∈ u_c_X6_workOut := fun w h => List.mem_cons_of_mem _ (List.mem_append_right _ h)
set_option maxHeartbeats 1000000 in
set_option maxRecDepth 100000 in
theorem c_X6_workOut (l : Launch) (dC : Nat → ClassId) (dI : Nat → Nat → Nat) (sz : Nat) (h0 : Nat) (fs : List Value) (hn_fs : fs.length = 14) (e_fs_9 : fs[9]? = some (.int 0)) : Met l yX6_workOut u_c_X6_workOut ({ frames := 0, cells := 0, slots := 0, locals := 0 }) (va_Pc [.ref h0] (fun U => U.heap.size = sz ∧ va_P (dC, dI) vwCl [(h0, .inr (6, fs))] U.heap ∧ va_K (dC, dI) vwCl [] U ∧ va_D (fun _ => True) [(h0, .inr (6, fs))])) (va_Qv (fun (_ : Unit) => True) (fun _ t => va_P (dC, dI) vwCl [(h0, .inr (6, (List.set (List.set (List.set (List.set fs 10 (.int 0)) 11 (.int 0)) 12 (.int 0)) 13 (.int 0))))] t.heap ∧ va_D (va_A [(h0, .inr (6, fs))] sz) [(h0, .inr (6, (List.set (List.set (List.set (List.set fs 10 (.int 0)) 11 (.int 0)) 12 (.int 0)) 13 (.int 0))))]) (va_A [(h0, .inr (6, fs))] sz)) 0 0 (va_A [(h0, .inr (6, fs))] sz) := by
  refine Met.ofW (cc := cX6_workOut) (maxL := 2) (ret := none) (by decide) rfl ?_
  intro p e s m args below meth c s₁ B hml hv
  obtain ⟨rfl, hsz, hP, hK, hD0⟩ := hv
  have hx := B.exec
  have hb := B.bytes
  have hr := B.returns
  have hts := atoms_spec (ws := u_c_X6_workOut) B.pre
  have hown : s.vm.findClass RX6 = some m.cls := findClass_of_methodNamed B.named
  have hlocks := B.notSynchronized
  have hiX6 := iX6_c_X6_workOut
  subst hsz
  have hD := hD0.self (sz := s.heap.size)
  generalize hAe : va_A [(h0, .inr (6, fs))] s.heap.size = A at hD ⊢
  have hA : ∀ q : Nat, s.heap.size ≤ q → A q := fun q h => by rw [← hAe]; exact Or.inr h
  have hS : va_S A s.heap s.heap [] := va_S.rf
  obtain ⟨H, hH⟩ : ∃ H : Heap, H = s.heap := ⟨_, rfl⟩
  have hP : va_P (dC, dI) vwCl [(h0, .inr (6, fs))] H := by rw [hH]; exact hP
  have hS : va_S A s.heap H [] := by rw [hH]; exact hS
  have hl := lv_entry ([.ref h0]) (n := 2) (Nat.le_of_ble_eq_true rfl)
  rw [lg_entry_eq]
  generalize (lg_sl ([.ref h0]) ++ List.replicate (2 - (lg_sl ([.ref h0])).length) Slot.unset).toArray = ls at hl ⊢
  have hl : lv_has ls 2 [(0, .ref h0)] := hl
  suffices h9 : W p l e (headSpec u_c_X6_workOut _).room s m _ below meth c H [] 0 0 _ (F0 m 0 ls []) by rw [hH] at h9; exact h9
  refine lv_aload_n hx hb dX6_workOut_0 rfl (lv_at hl 0 rfl) ?_
  refine lv_iconst (v := 0) hx hb dX6_workOut_1 (by decide) ?_
  refine va_put (D := (dC, dI)) (ci := 6) (v := .int 0) (ty := .int) (C := RX6) (T := TX6) (N := 14) hx hb hts hiX6 tyX6 tyX6_ok nmX6 hown hK hP hD hS 0 rfl rfl 10 (by decide) (hts (.fieldLink RX6 65 "CakePapers$Paper" "ends" "I") (by decide +kernel)) (fun _ h9 => h9) rfl (by decide +kernel) rfl rfl (by simp [hn_fs]) dX6_workOut_2 (fun H locs hP hD hS => ?_)
  have hP : va_P (dC, dI) vwCl [(h0, .inr (6, (List.set fs 10 (.int 0))))] H := hP
  have hD : va_D A [(h0, .inr (6, (List.set fs 10 (.int 0))))] := hD
  refine lv_aload_n hx hb dX6_workOut_5 rfl (lv_at hl 0 rfl) ?_
  refine lv_iconst (v := 0) hx hb dX6_workOut_6 (by decide) ?_
  refine va_put (D := (dC, dI)) (ci := 6) (v := .int 0) (ty := .int) (C := RX6) (T := TX6) (N := 14) hx hb hts hiX6 tyX6 tyX6_ok nmX6 hown hK hP hD hS 0 rfl rfl 11 (by decide) (hts (.fieldLink RX6 68 "CakePapers$Paper" "path" "I") (by decide +kernel)) (fun _ h9 => h9) rfl (by decide +kernel) rfl rfl (by simp [hn_fs]) dX6_workOut_7 (fun H locs hP hD hS => ?_)
  have hP : va_P (dC, dI) vwCl [(h0, .inr (6, (List.set (List.set fs 10 (.int 0)) 11 (.int 0))))] H := hP
  have hD : va_D A [(h0, .inr (6, (List.set (List.set fs 10 (.int 0)) 11 (.int 0))))] := hD
  refine lv_aload_n hx hb dX6_workOut_10 rfl (lv_at hl 0 rfl) ?_
  refine lv_iconst (v := 0) hx hb dX6_workOut_11 (by decide) ?_
  refine va_put (D := (dC, dI)) (ci := 6) (v := .int 0) (ty := .int) (C := RX6) (T := TX6) (N := 14) hx hb hts hiX6 tyX6 tyX6_ok nmX6 hown hK hP hD hS 0 rfl rfl 12 (by decide) (hts (.fieldLink RX6 71 "CakePapers$Paper" "allMuch" "I") (by decide +kernel)) (fun _ h9 => h9) rfl (by decide +kernel) rfl rfl (by simp [hn_fs]) dX6_workOut_12 (fun H locs hP hD hS => ?_)
  have hP : va_P (dC, dI) vwCl [(h0, .inr (6, (List.set (List.set (List.set fs 10 (.int 0)) 11 (.int 0)) 12 (.int 0))))] H := hP
  have hD : va_D A [(h0, .inr (6, (List.set (List.set (List.set fs 10 (.int 0)) 11 (.int 0)) 12 (.int 0))))] := hD
  refine lv_aload_n hx hb dX6_workOut_15 rfl (lv_at hl 0 rfl) ?_
  refine lv_iconst (v := 0) hx hb dX6_workOut_16 (by decide) ?_
  refine va_put (D := (dC, dI)) (ci := 6) (v := .int 0) (ty := .int) (C := RX6) (T := TX6) (N := 14) hx hb hts hiX6 tyX6 tyX6_ok nmX6 hown hK hP hD hS 0 rfl rfl 13 (by decide) (hts (.fieldLink RX6 74 "CakePapers$Paper" "allLong" "I") (by decide +kernel)) (fun _ h9 => h9) rfl (by decide +kernel) rfl rfl (by simp [hn_fs]) dX6_workOut_17 (fun H locs hP hD hS => ?_)
  have hP : va_P (dC, dI) vwCl [(h0, .inr (6, (List.set (List.set (List.set (List.set fs 10 (.int 0)) 11 (.int 0)) 12 (.int 0)) 13 (.int 0))))] H := hP
  have hD : va_D A [(h0, .inr (6, (List.set (List.set (List.set (List.set fs 10 (.int 0)) 11 (.int 0)) 12 (.int 0)) 13 (.int 0))))] := hD
  refine lv_iconst (v := 0) hx hb dX6_workOut_20 (by decide) ?_
  refine lv_istore_n (lv' := [(1, .int 0), (0, .ref h0)]) hx hb dX6_workOut_21 rfl hl (by decide) rfl (fun ls hl => ?_)
  refine lv_iload_n hx hb dX6_workOut_22 rfl (lv_at hl 0 rfl) ?_
  refine lv_aload_n hx hb dX6_workOut_23 rfl (lv_at hl 1 rfl) ?_
  refine va_get (D := (dC, dI)) (ci := 6) (v := .int 0) (C := RX6) (T := TX6) (N := 14) hx hb hts hiX6 hown hK hP 0 rfl rfl 9 (by decide) (hts (.fieldLink RX6 47 "CakePapers$Paper" "steps" "I") (by decide +kernel)) (fun _ h9 => h9) (by simp [e_fs_9]) dX6_workOut_24 ?_
  refine lv_icmp_ge (tgt := 95) hx hb dX6_workOut_27 (by decide) (fun c_1 => ?_) (fun c_1 => absurd c_1 (by decide))
  refine lv_iconst (v := 0) hx hb dX6_workOut_95 (by decide) ?_
  refine lv_istore_n (lv' := [(1, .int 0), (0, .ref h0)]) hx hb dX6_workOut_96 rfl hl (by decide) rfl (fun ls hl => ?_)
  refine lv_iload_n hx hb dX6_workOut_97 rfl (lv_at hl 0 rfl) ?_
  refine lv_aload_n hx hb dX6_workOut_98 rfl (lv_at hl 1 rfl) ?_
  refine va_get (D := (dC, dI)) (ci := 6) (v := .int 0) (C := RX6) (T := TX6) (N := 14) hx hb hts hiX6 hown hK hP 0 rfl rfl 9 (by decide) (hts (.fieldLink RX6 47 "CakePapers$Paper" "steps" "I") (by decide +kernel)) (fun _ h9 => h9) (by simp [e_fs_9]) dX6_workOut_99 ?_
  refine lv_icmp_ge (tgt := 134) hx hb dX6_workOut_102 (by decide) (fun c_2 => ?_) (fun c_2 => absurd c_2 (by decide))
  refine W.widen (k := 0) (n := 0) (Nat.le_of_ble_eq_true rfl) (Nat.le_of_ble_eq_true rfl) ?_
  have hP9 := hP.sub (ws' := [(h0, .inr (6, (List.set (List.set (List.set (List.set fs 10 (.int 0)) 11 (.int 0)) 12 (.int 0)) 13 (.int 0))))]) [0] rfl
  have hD9 := hD.sub (ws' := [(h0, .inr (6, (List.set (List.set (List.set (List.set fs 10 (.int 0)) 11 (.int 0)) 12 (.int 0)) 13 (.int 0))))]) [0] (by decide) rfl
  exact W.vret hx hb hr (fun t ht hW => ⟨⟨(), rfl, trivial, by rw [ht]; exact hP9, hD9⟩, hS.F ht⟩) hS.2.2 dX6_workOut_134
def u_c_X7_read : List Cond := .code yX7_read cX7_read 3 (some .boolean) :: ([.fieldLink RX7 22 "CakePapers$PaperReader" "calls" "I", .fieldLink RX7 26 "CakePapers$Paper" "steps" "I", .fieldLink RX7 9 "CakePapers$PaperReader" "scanner" "LCakePapers$Scanner;", .fieldLink RX7 31 "CakePapers$Scanner" "kind" "I", .code yX6_workOut cX6_workOut 2 none, .fieldLink RX6 65 "CakePapers$Paper" "ends" "I", .fieldLink RX6 68 "CakePapers$Paper" "path" "I", .fieldLink RX6 71 "CakePapers$Paper" "allMuch" "I", .fieldLink RX6 74 "CakePapers$Paper" "allLong" "I", .fieldLink RX6 47 "CakePapers$Paper" "steps" "I", .methodLink RX7 47 yX6_workOut, .instanceMethod yX6_workOut, .selects RX6 yX6_workOut yX6_workOut, .initialized RX6] ++ wsX70 ++ wsX60 ++ wsX80)
theorem iX7_c_X7_read : ∀ w ∈ wsX70, w ∈ u_c_X7_read := fun w h => List.mem_cons_of_mem _ (List.mem_append_left _ (List.mem_append_left _ (List.mem_append_right _ h)))
theorem iX6_c_X7_read : ∀ w ∈ wsX60, w ∈ u_c_X7_read := fun w h => List.mem_cons_of_mem _ (List.mem_append_left _ (List.mem_append_right _ h))
theorem iX8_c_X7_read : ∀ w ∈ wsX80, w ∈ u_c_X7_read := fun w h => List.mem_cons_of_mem _ (List.mem_append_right _ h)
set_option maxRecDepth 20000 in
theorem g_c_X7_read_c_X6_workOut_0 : GoodIn u_c_X7_read (wsV RX7 47 RX6 yX6_workOut u_c_X6_workOut) := goodIn_app (goodIn_of _ (by decide +kernel)) (goodIn_ca (goodIn_of (.code yX6_workOut cX6_workOut 2 none :: [.fieldLink RX6 65 "CakePapers$Paper" "ends" "I", .fieldLink RX6 68 "CakePapers$Paper" "path" "I", .fieldLink RX6 71 "CakePapers$Paper" "allMuch" "I", .fieldLink RX6 74 "CakePapers$Paper" "allLong" "I", .fieldLink RX6 47 "CakePapers$Paper" "steps" "I"]) (by decide +kernel)) (goodIn_sub iX6_c_X7_read zgX6))
set_option maxHeartbeats 1000000 in
set_option maxRecDepth 100000 in
theorem c_X7_read (l : Launch) (dC : Nat → ClassId) (dI : Nat → Nat → Nat) (sz : Nat) (h0 h1 h2 : Nat) (fs : List Value) (hn_fs : fs.length = 4) (e_fs_0 : fs[0]? = some (.ref h2)) (gs : List Value) (hn_gs : gs.length = 14) (ss : List Value) (hn_ss : ss.length = 10) (e_ss_4 : ss[4]? = some (.int 1)) : Met l yX7_read u_c_X7_read ({ frames := 1, cells := 0, slots := 0, locals := 21 }) (va_Pc [.ref h0, .ref h1] (fun U => U.heap.size = sz ∧ va_P (dC, dI) vwCl [(h0, .inr (7, fs)), (h1, .inr (6, gs)), (h2, .inr (8, ss))] U.heap ∧ va_K (dC, dI) vwCl [] U ∧ va_D (fun _ => True) [(h0, .inr (7, fs)), (h1, .inr (6, gs)), (h2, .inr (8, ss))])) (va_Qi (fun (r : Int32) (_ : Unit) => r = 1) (fun _ t => va_P (dC, dI) vwCl [(h0, .inr (7, (List.set fs 3 (.int 0)))), (h1, .inr (6, (List.set (List.set (List.set (List.set (List.set gs 9 (.int 0)) 10 (.int 0)) 11 (.int 0)) 12 (.int 0)) 13 (.int 0)))), (h2, .inr (8, ss))] t.heap ∧ va_D (va_A [(h0, .inr (7, fs)), (h1, .inr (6, gs)), (h2, .inr (8, ss))] sz) [(h0, .inr (7, (List.set fs 3 (.int 0)))), (h1, .inr (6, (List.set (List.set (List.set (List.set (List.set gs 9 (.int 0)) 10 (.int 0)) 11 (.int 0)) 12 (.int 0)) 13 (.int 0)))), (h2, .inr (8, ss))]) (va_A [(h0, .inr (7, fs)), (h1, .inr (6, gs)), (h2, .inr (8, ss))] sz)) 0 0 (va_A [(h0, .inr (7, fs)), (h1, .inr (6, gs)), (h2, .inr (8, ss))] sz) := by
  refine Met.ofW (cc := cX7_read) (maxL := 3) (ret := (some .boolean)) (by decide) rfl ?_
  intro p e s m args below meth c s₁ B hml hv
  obtain ⟨rfl, hsz, hP, hK, hD0⟩ := hv
  have hx := B.exec
  have hb := B.bytes
  have hr := B.returns
  have hts := atoms_spec (ws := u_c_X7_read) B.pre
  have hown : s.vm.findClass RX7 = some m.cls := findClass_of_methodNamed B.named
  have hlocks := B.notSynchronized
  have hiX7 := iX7_c_X7_read
  have hiX6 := iX6_c_X7_read
  have hiX8 := iX8_c_X7_read
  subst hsz
  have hD := hD0.self (sz := s.heap.size)
  generalize hAe : va_A [(h0, .inr (7, fs)), (h1, .inr (6, gs)), (h2, .inr (8, ss))] s.heap.size = A at hD ⊢
  have hA : ∀ q : Nat, s.heap.size ≤ q → A q := fun q h => by rw [← hAe]; exact Or.inr h
  have hS : va_S A s.heap s.heap [] := va_S.rf
  obtain ⟨H, hH⟩ : ∃ H : Heap, H = s.heap := ⟨_, rfl⟩
  have hP : va_P (dC, dI) vwCl [(h0, .inr (7, fs)), (h1, .inr (6, gs)), (h2, .inr (8, ss))] H := by rw [hH]; exact hP
  have hS : va_S A s.heap H [] := by rw [hH]; exact hS
  have hl := lv_entry ([.ref h0, .ref h1]) (n := 3) (Nat.le_of_ble_eq_true rfl)
  rw [lg_entry_eq]
  generalize (lg_sl ([.ref h0, .ref h1]) ++ List.replicate (3 - (lg_sl ([.ref h0, .ref h1])).length) Slot.unset).toArray = ls at hl ⊢
  have hl : lv_has ls 3 [(0, .ref h0), (1, .ref h1)] := hl
  suffices h9 : W p l e (headSpec u_c_X7_read _).room s m _ below meth c H [] 0 0 _ (F0 m 0 ls []) by rw [hH] at h9; exact h9
  refine lv_aload_n hx hb dX7_read_0 rfl (lv_at hl 0 rfl) ?_
  refine lv_iconst (v := 0) hx hb dX7_read_1 (by decide) ?_
  refine va_put (D := (dC, dI)) (ci := 7) (v := .int 0) (ty := .int) (C := RX7) (T := TX7) (N := 4) hx hb hts hiX7 tyX7 tyX7_ok nmX7 hown hK hP hD hS 0 rfl rfl 3 (by decide) (hts (.fieldLink RX7 22 "CakePapers$PaperReader" "calls" "I") (by decide +kernel)) (fun _ h9 => h9) rfl (by decide +kernel) rfl rfl (by simp [hn_fs]) dX7_read_2 (fun H locs hP hD hS => ?_)
  have hP : va_P (dC, dI) vwCl [(h0, .inr (7, (List.set fs 3 (.int 0)))), (h1, .inr (6, gs)), (h2, .inr (8, ss))] H := hP
  have hD : va_D A [(h0, .inr (7, (List.set fs 3 (.int 0)))), (h1, .inr (6, gs)), (h2, .inr (8, ss))] := hD
  refine lv_aload_n hx hb dX7_read_5 rfl (lv_at hl 1 rfl) ?_
  refine lv_iconst (v := 0) hx hb dX7_read_6 (by decide) ?_
  refine va_put (D := (dC, dI)) (ci := 6) (v := .int 0) (ty := .int) (C := RX6) (T := TX6) (N := 14) hx hb hts hiX6 tyX6 tyX6_ok nmX6 hown hK hP hD hS 1 rfl rfl 9 (by decide) (hts (.fieldLink RX7 26 "CakePapers$Paper" "steps" "I") (by decide +kernel)) (fun _ h9 => h9) rfl (by decide +kernel) rfl rfl (by simp [hn_gs]) dX7_read_7 (fun H locs hP hD hS => ?_)
  have hP : va_P (dC, dI) vwCl [(h0, .inr (7, (List.set fs 3 (.int 0)))), (h1, .inr (6, (List.set gs 9 (.int 0)))), (h2, .inr (8, ss))] H := hP
  have hD : va_D A [(h0, .inr (7, (List.set fs 3 (.int 0)))), (h1, .inr (6, (List.set gs 9 (.int 0)))), (h2, .inr (8, ss))] := hD
  refine lv_iconst (v := 0) hx hb dX7_read_10 (by decide) ?_
  refine lv_istore_n (lv' := [(2, .int 0), (0, .ref h0), (1, .ref h1)]) hx hb dX7_read_11 rfl hl (by decide) rfl (fun ls hl => ?_)
  refine lv_iload_n hx hb dX7_read_12 rfl (lv_at hl 0 rfl) ?_
  refine lv_bipush (v := 6) hx hb dX7_read_13 (by decide) ?_
  refine lv_icmp_gt (tgt := 45) hx hb dX7_read_15 (by decide) (fun c_1 => absurd c_1 (by decide)) (fun c_1 => ?_)
  refine lv_aload_n hx hb dX7_read_18 rfl (lv_at hl 1 rfl) ?_
  refine va_get (D := (dC, dI)) (ci := 7) (v := .ref h2) (C := RX7) (T := TX7) (N := 4) hx hb hts hiX7 hown hK hP 0 rfl rfl 0 (by decide) (hts (.fieldLink RX7 9 "CakePapers$PaperReader" "scanner" "LCakePapers$Scanner;") (by decide +kernel)) (fun _ h9 => h9) (by simp [e_fs_0]) dX7_read_19 ?_
  refine va_get (D := (dC, dI)) (ci := 8) (v := .int 1) (C := RX8) (T := TX8) (N := 10) hx hb hts hiX8 hown hK hP 2 rfl rfl 4 (by decide) (hts (.fieldLink RX7 31 "CakePapers$Scanner" "kind" "I") (by decide +kernel)) (fun _ h9 => h9) e_ss_4 dX7_read_22 ?_
  refine lv_bipush (v := 100) hx hb dX7_read_25 (by decide) ?_
  refine lv_icmp_ne (tgt := 45) hx hb dX7_read_27 (by decide) (fun c_2 => ?_) (fun c_2 => absurd c_2 (by decide))
  refine lv_iconst (v := 0) hx hb dX7_read_45 (by decide) ?_
  refine lv_istore_n (lv' := [(2, .int 0), (0, .ref h0), (1, .ref h1)]) hx hb dX7_read_46 rfl hl (by decide) rfl (fun ls hl => ?_)
  refine lv_iload_n hx hb dX7_read_47 rfl (lv_at hl 0 rfl) ?_
  refine lv_bipush (v := 12) hx hb dX7_read_48 (by decide) ?_
  refine lv_icmp_gt (tgt := 81) hx hb dX7_read_50 (by decide) (fun c_3 => absurd c_3 (by decide)) (fun c_3 => ?_)
  refine lv_aload_n hx hb dX7_read_53 rfl (lv_at hl 1 rfl) ?_
  refine va_get (D := (dC, dI)) (ci := 7) (v := .ref h2) (C := RX7) (T := TX7) (N := 4) hx hb hts hiX7 hown hK hP 0 rfl rfl 0 (by decide) (hts (.fieldLink RX7 9 "CakePapers$PaperReader" "scanner" "LCakePapers$Scanner;") (by decide +kernel)) (fun _ h9 => h9) (by simp [e_fs_0]) dX7_read_54 ?_
  refine va_get (D := (dC, dI)) (ci := 8) (v := .int 1) (C := RX8) (T := TX8) (N := 10) hx hb hts hiX8 hown hK hP 2 rfl rfl 4 (by decide) (hts (.fieldLink RX7 31 "CakePapers$Scanner" "kind" "I") (by decide +kernel)) (fun _ h9 => h9) e_ss_4 dX7_read_57 ?_
  refine lv_bipush (v := 101) hx hb dX7_read_60 (by decide) ?_
  refine lv_icmp_ne (tgt := 81) hx hb dX7_read_62 (by decide) (fun c_4 => ?_) (fun c_4 => absurd c_4 (by decide))
  refine lv_aload_n hx hb dX7_read_81 rfl (lv_at hl 1 rfl) ?_
  refine va_get (D := (dC, dI)) (ci := 7) (v := .ref h2) (C := RX7) (T := TX7) (N := 4) hx hb hts hiX7 hown hK hP 0 rfl rfl 0 (by decide) (hts (.fieldLink RX7 9 "CakePapers$PaperReader" "scanner" "LCakePapers$Scanner;") (by decide +kernel)) (fun _ h9 => h9) (by simp [e_fs_0]) dX7_read_82 ?_
  refine va_get (D := (dC, dI)) (ci := 8) (v := .int 1) (C := RX8) (T := TX8) (N := 10) hx hb hts hiX8 hown hK hP 2 rfl rfl 4 (by decide) (hts (.fieldLink RX7 31 "CakePapers$Scanner" "kind" "I") (by decide +kernel)) (fun _ h9 => h9) e_ss_4 dX7_read_85 ?_
  refine lv_iconst (v := 1) hx hb dX7_read_88 (by decide) ?_
  refine lv_icmp_eq (tgt := 100) hx hb dX7_read_89 (by decide) (fun c_5 => ?_) (fun c_5 => absurd c_5 (by decide))
  refine lv_aload_n hx hb dX7_read_100 rfl (lv_at hl 2 rfl) ?_
  have hPc := hP.sub (ws' := [(h1, .inr (6, (List.set gs 9 (.int 0))))]) [1] rfl
  have hDc := hD.sub (ws' := [(h1, .inr (6, (List.set gs 9 (.int 0))))]) [1] (by decide) rfl
  have hKc := hK.sub (tys' := []) [] rfl
  have hFc := va_free (wc := [(h1, .inr (6, (List.set gs 9 (.int 0))))]) hD hS hA [1] rfl
  refine va_callv (va_runV (As := []) (rest := []) ⟨hx, hb, hml, hown, hts⟩ (c_X6_workOut l dC dI H.size h1 (List.set gs 9 (.int 0)) (by simp [hn_gs]) (by simp [hn_gs])) (cwV 0 hts g_c_X7_read_c_X6_workOut_0 rfl rfl rfl (by decide +kernel) ⟨Nat.le_of_ble_eq_true rfl, Nat.le_of_ble_eq_true rfl⟩) ⟨fun a U g mk q => by obtain ⟨q0, q1, qP, qK, qD⟩ := q; exact ⟨q0, q1, qP, va_K.moved (u := U) (U := U.calling g mk a) (Vm.Alike.refl U.vm) qK, qD⟩, va_recv hKc hPc (ci := 6) (q0 := 0) rfl rfl, fun U hU hW => ⟨rfl, by rw [hU], by rw [hU]; exact hPc, va_K.moved hW.alike hKc, hDc.weaken (fun _ _ _ _ => trivial)⟩⟩ rfl rfl hl.1 rfl (lv_room (Nat.le_of_ble_eq_true rfl)) dX7_read_101 ⟨Nat.le_of_ble_eq_true rfl, Nat.le_of_ble_eq_true rfl⟩) hS (fun q _ h => hFc q h) hFc (fun u t H1 locs ht hvm hw hB hz1 hk1 hS => ?_)
  obtain ⟨hP1, hD1⟩ := hB
  rw [ht] at hP1
  obtain ⟨hP, hD⟩ := va_join (wr := [(h0, .inr (7, (List.set fs 3 (.int 0)))), (h2, .inr (8, ss))]) (w1 := [(h1, .inr (6, (List.set (List.set (List.set (List.set (List.set gs 9 (.int 0)) 10 (.int 0)) 11 (.int 0)) 12 (.int 0)) 13 (.int 0))))]) hP hD [1] [0, 2] rfl rfl (by decide) (by decide) hk1 hFc hP1 hD1
  generalize H1 = H at hP hS ⊢
  have hP : va_P (dC, dI) vwCl [(h0, .inr (7, (List.set fs 3 (.int 0)))), (h2, .inr (8, ss)), (h1, .inr (6, (List.set (List.set (List.set (List.set (List.set gs 9 (.int 0)) 10 (.int 0)) 11 (.int 0)) 12 (.int 0)) 13 (.int 0))))] H := hP
  have hD : va_D A [(h0, .inr (7, (List.set fs 3 (.int 0)))), (h2, .inr (8, ss)), (h1, .inr (6, (List.set (List.set (List.set (List.set (List.set gs 9 (.int 0)) 10 (.int 0)) 11 (.int 0)) 12 (.int 0)) 13 (.int 0))))] := hD
  refine W.widen (k := 0) (n := 0) (Nat.le_of_ble_eq_true rfl) (Nat.le_of_ble_eq_true rfl) ?_
  refine lv_iconst (v := 1) hx hb dX7_read_104 (by decide) ?_
  refine W.widen (k := 0) (n := 0) (Nat.le_of_ble_eq_true rfl) (Nat.le_of_ble_eq_true rfl) ?_
  have hP9 := hP.sub (ws' := [(h0, .inr (7, (List.set fs 3 (.int 0)))), (h1, .inr (6, (List.set (List.set (List.set (List.set (List.set gs 9 (.int 0)) 10 (.int 0)) 11 (.int 0)) 12 (.int 0)) 13 (.int 0)))), (h2, .inr (8, ss))]) [0, 2, 1] rfl
  have hD9 := hD.sub (ws' := [(h0, .inr (7, (List.set fs 3 (.int 0)))), (h1, .inr (6, (List.set (List.set (List.set (List.set (List.set gs 9 (.int 0)) 10 (.int 0)) 11 (.int 0)) 12 (.int 0)) 13 (.int 0)))), (h2, .inr (8, ss))]) [0, 2, 1] (by decide) rfl
  exact W.zret (v := 1) hx hb hr (rfl) (fun t ht hW => ⟨⟨1, (), rfl, rfl, by rw [ht]; exact hP9, hD9⟩, hS.F ht⟩) hS.2.2 dX7_read_105
def u_c_X10_read : List Cond := .code yX10_read cX10_read 2 (some .boolean) :: ([.fieldLink RX10 15 "CakePapers$WantReader" "into" "LCakePapers$Want;", .fieldLink RX10 19 "CakePapers$Want" "length" "I", .fieldLink RX10 25 "CakePapers$Want" "units" "I", .fieldLink RX10 9 "CakePapers$WantReader" "scanner" "LCakePapers$Scanner;", .code yX8_pass cX8_pass 2 (some .boolean), .fieldLink RX8 55 "CakePapers$Scanner" "kind" "I", .code yX8_refuse cX8_refuse 1 (some .boolean), .code yX8_blame cX8_blame 2 (some .boolean), .fieldLink RX8 46 "CakePapers$Scanner" "fault" "I", .fieldLink RX8 52 "CakePapers$Scanner" "place" "I", .fieldLink RX8 19 "CakePapers$Scanner" "faultPlace" "I", .methodLink RX8 84 yX8_blame, .instanceMethod yX8_blame, .selects RX8 yX8_blame yX8_blame, .initialized RX8, .methodLink RX8 87 yX8_refuse, .instanceMethod yX8_refuse, .selects RX8 yX8_refuse yX8_refuse, .methodLink RX10 30 yX8_pass, .instanceMethod yX8_pass, .selects RX8 yX8_pass yX8_pass] ++ wsX100 ++ wsX90 ++ wsX80)
theorem iX10_c_X10_read : ∀ w ∈ wsX100, w ∈ u_c_X10_read := fun w h => List.mem_cons_of_mem _ (List.mem_append_left _ (List.mem_append_left _ (List.mem_append_right _ h)))
theorem iX9_c_X10_read : ∀ w ∈ wsX90, w ∈ u_c_X10_read := fun w h => List.mem_cons_of_mem _ (List.mem_append_left _ (List.mem_append_right _ h))
theorem iX8_c_X10_read : ∀ w ∈ wsX80, w ∈ u_c_X10_read := fun w h => List.mem_cons_of_mem _ (List.mem_append_right _ h)
set_option maxRecDepth 20000 in
theorem g_c_X10_read_c_X8_pass_0 : GoodIn u_c_X10_read (wsV RX10 30 RX8 yX8_pass u_c_X8_pass) := goodIn_app (goodIn_of _ (by decide +kernel)) (goodIn_ca (goodIn_of (.code yX8_pass cX8_pass 2 (some .boolean) :: [.fieldLink RX8 55 "CakePapers$Scanner" "kind" "I", .code yX8_refuse cX8_refuse 1 (some .boolean), .code yX8_blame cX8_blame 2 (some .boolean), .fieldLink RX8 46 "CakePapers$Scanner" "fault" "I", .fieldLink RX8 52 "CakePapers$Scanner" "place" "I", .fieldLink RX8 19 "CakePapers$Scanner" "faultPlace" "I", .methodLink RX8 84 yX8_blame, .instanceMethod yX8_blame, .selects RX8 yX8_blame yX8_blame, .initialized RX8, .methodLink RX8 87 yX8_refuse, .instanceMethod yX8_refuse, .selects RX8 yX8_refuse yX8_refuse]) (by decide +kernel)) (goodIn_sub iX8_c_X10_read zgX8))
set_option maxHeartbeats 1000000 in
set_option maxRecDepth 100000 in
theorem c_X10_read (l : Launch) (dC : Nat → ClassId) (dI : Nat → Nat → Nat) (sz : Nat) (h0 h1 h2 : Nat) (fs : List Value) (hn_fs : fs.length = 2) (e_fs_0 : fs[0]? = some (.ref h2)) (gs : List Value) (hn_gs : gs.length = 5) (ss : List Value) (hn_ss : ss.length = 10) (e_ss_4 : ss[4]? = some (.int 1)) (e_ss_5 : ss[5]? = some (.int 0)) : Met l yX10_read u_c_X10_read ({ frames := 3, cells := 0, slots := 0, locals := 62 }) (va_Pc [.ref h0, .ref h1] (fun U => U.heap.size = sz ∧ va_P (dC, dI) vwCl [(h0, .inr (10, fs)), (h1, .inr (9, gs)), (h2, .inr (8, ss))] U.heap ∧ va_K (dC, dI) vwCl [] U ∧ va_D (fun _ => True) [(h0, .inr (10, fs)), (h1, .inr (9, gs)), (h2, .inr (8, ss))])) (va_Qi (fun (r : Int32) (_ : Unit) => r = 0) (fun _ _ => True) (va_A [(h0, .inr (10, fs)), (h1, .inr (9, gs)), (h2, .inr (8, ss))] sz)) 0 0 (va_A [(h0, .inr (10, fs)), (h1, .inr (9, gs)), (h2, .inr (8, ss))] sz) := by
  refine Met.ofW (cc := cX10_read) (maxL := 2) (ret := (some .boolean)) (by decide) rfl ?_
  intro p e s m args below meth c s₁ B hml hv
  obtain ⟨rfl, hsz, hP, hK, hD0⟩ := hv
  have hx := B.exec
  have hb := B.bytes
  have hr := B.returns
  have hts := atoms_spec (ws := u_c_X10_read) B.pre
  have hown : s.vm.findClass RX10 = some m.cls := findClass_of_methodNamed B.named
  have hlocks := B.notSynchronized
  have hiX10 := iX10_c_X10_read
  have hiX9 := iX9_c_X10_read
  have hiX8 := iX8_c_X10_read
  subst hsz
  have hD := hD0.self (sz := s.heap.size)
  generalize hAe : va_A [(h0, .inr (10, fs)), (h1, .inr (9, gs)), (h2, .inr (8, ss))] s.heap.size = A at hD ⊢
  have hA : ∀ q : Nat, s.heap.size ≤ q → A q := fun q h => by rw [← hAe]; exact Or.inr h
  have hS : va_S A s.heap s.heap [] := va_S.rf
  obtain ⟨H, hH⟩ : ∃ H : Heap, H = s.heap := ⟨_, rfl⟩
  have hP : va_P (dC, dI) vwCl [(h0, .inr (10, fs)), (h1, .inr (9, gs)), (h2, .inr (8, ss))] H := by rw [hH]; exact hP
  have hS : va_S A s.heap H [] := by rw [hH]; exact hS
  have hl := lv_entry ([.ref h0, .ref h1]) (n := 2) (Nat.le_of_ble_eq_true rfl)
  rw [lg_entry_eq]
  generalize (lg_sl ([.ref h0, .ref h1]) ++ List.replicate (2 - (lg_sl ([.ref h0, .ref h1])).length) Slot.unset).toArray = ls at hl ⊢
  have hl : lv_has ls 2 [(0, .ref h0), (1, .ref h1)] := hl
  suffices h9 : W p l e (headSpec u_c_X10_read _).room s m _ below meth c H [] 0 0 _ (F0 m 0 ls []) by rw [hH] at h9; exact h9
  refine lv_aload_n hx hb dX10_read_0 rfl (lv_at hl 0 rfl) ?_
  refine lv_aload_n hx hb dX10_read_1 rfl (lv_at hl 1 rfl) ?_
  refine va_put (D := (dC, dI)) (ci := 10) (v := .ref h1) (ty := (.object "CakePapers$Want")) (C := RX10) (T := TX10) (N := 2) hx hb hts hiX10 tyX10 tyX10_ok nmX10 hown hK hP hD hS 0 rfl rfl 1 (by decide) (hts (.fieldLink RX10 15 "CakePapers$WantReader" "into" "LCakePapers$Want;") (by decide +kernel)) (fun _ h9 => h9) rfl (by decide +kernel) rfl rfl (by simp [hn_fs]) dX10_read_2 (fun H locs hP hD hS => ?_)
  have hP : va_P (dC, dI) vwCl [(h0, .inr (10, (List.set fs 1 (.ref h1)))), (h1, .inr (9, gs)), (h2, .inr (8, ss))] H := hP
  have hD : va_D A [(h0, .inr (10, (List.set fs 1 (.ref h1)))), (h1, .inr (9, gs)), (h2, .inr (8, ss))] := hD
  refine lv_aload_n hx hb dX10_read_5 rfl (lv_at hl 0 rfl) ?_
  refine va_get (D := (dC, dI)) (ci := 10) (v := .ref h1) (C := RX10) (T := TX10) (N := 2) hx hb hts hiX10 hown hK hP 0 rfl rfl 1 (by decide) (hts (.fieldLink RX10 15 "CakePapers$WantReader" "into" "LCakePapers$Want;") (by decide +kernel)) (fun _ h9 => h9) (by simp [hn_fs]) dX10_read_6 ?_
  refine lv_iconst (v := 0) hx hb dX10_read_9 (by decide) ?_
  refine va_put (D := (dC, dI)) (ci := 9) (v := .int 0) (ty := .int) (C := RX9) (T := TX9) (N := 5) hx hb hts hiX9 tyX9 tyX9_ok nmX9 hown hK hP hD hS 1 rfl rfl 3 (by decide) (hts (.fieldLink RX10 19 "CakePapers$Want" "length" "I") (by decide +kernel)) (fun _ h9 => h9) rfl (by decide +kernel) rfl rfl (by simp [hn_gs]) dX10_read_10 (fun H locs hP hD hS => ?_)
  have hP : va_P (dC, dI) vwCl [(h0, .inr (10, (List.set fs 1 (.ref h1)))), (h1, .inr (9, (List.set gs 3 (.int 0)))), (h2, .inr (8, ss))] H := hP
  have hD : va_D A [(h0, .inr (10, (List.set fs 1 (.ref h1)))), (h1, .inr (9, (List.set gs 3 (.int 0)))), (h2, .inr (8, ss))] := hD
  refine lv_aload_n hx hb dX10_read_13 rfl (lv_at hl 0 rfl) ?_
  refine va_get (D := (dC, dI)) (ci := 10) (v := .ref h1) (C := RX10) (T := TX10) (N := 2) hx hb hts hiX10 hown hK hP 0 rfl rfl 1 (by decide) (hts (.fieldLink RX10 15 "CakePapers$WantReader" "into" "LCakePapers$Want;") (by decide +kernel)) (fun _ h9 => h9) (by simp [hn_fs]) dX10_read_14 ?_
  refine lv_iconst (v := 0) hx hb dX10_read_17 (by decide) ?_
  refine va_put (D := (dC, dI)) (ci := 9) (v := .int 0) (ty := .int) (C := RX9) (T := TX9) (N := 5) hx hb hts hiX9 tyX9 tyX9_ok nmX9 hown hK hP hD hS 1 rfl rfl 4 (by decide) (hts (.fieldLink RX10 25 "CakePapers$Want" "units" "I") (by decide +kernel)) (fun _ h9 => h9) rfl (by decide +kernel) rfl rfl (by simp [hn_gs]) dX10_read_18 (fun H locs hP hD hS => ?_)
  have hP : va_P (dC, dI) vwCl [(h0, .inr (10, (List.set fs 1 (.ref h1)))), (h1, .inr (9, (List.set (List.set gs 3 (.int 0)) 4 (.int 0)))), (h2, .inr (8, ss))] H := hP
  have hD : va_D A [(h0, .inr (10, (List.set fs 1 (.ref h1)))), (h1, .inr (9, (List.set (List.set gs 3 (.int 0)) 4 (.int 0)))), (h2, .inr (8, ss))] := hD
  refine lv_aload_n hx hb dX10_read_21 rfl (lv_at hl 0 rfl) ?_
  refine va_get (D := (dC, dI)) (ci := 10) (v := .ref h2) (C := RX10) (T := TX10) (N := 2) hx hb hts hiX10 hown hK hP 0 rfl rfl 0 (by decide) (hts (.fieldLink RX10 9 "CakePapers$WantReader" "scanner" "LCakePapers$Scanner;") (by decide +kernel)) (fun _ h9 => h9) (by simp [e_fs_0]) dX10_read_22 ?_
  refine lv_bipush (v := 106) hx hb dX10_read_25 (by decide) ?_
  have hPc := hP.sub (ws' := [(h2, .inr (8, ss))]) [2] rfl
  have hDc := hD.sub (ws' := [(h2, .inr (8, ss))]) [2] (by decide) rfl
  have hKc := hK.sub (tys' := []) [] rfl
  have hFc := va_free (wc := [(h2, .inr (8, ss))]) hD hS hA [2] rfl
  refine va_calli (va_runV (As := [.int 106]) (rest := []) ⟨hx, hb, hml, hown, hts⟩ (c_X8_pass l dC dI H.size h2 ss hn_ss e_ss_4 e_ss_5) (cwV 1 hts g_c_X10_read_c_X8_pass_0 rfl rfl rfl (by decide +kernel) ⟨Nat.le_of_ble_eq_true rfl, Nat.le_of_ble_eq_true rfl⟩) ⟨fun a U g mk q => by obtain ⟨q0, q1, qP, qK, qD⟩ := q; exact ⟨q0, q1, qP, va_K.moved (u := U) (U := U.calling g mk a) (Vm.Alike.refl U.vm) qK, qD⟩, va_recv hKc hPc (ci := 8) (q0 := 0) rfl rfl, fun U hU hW => ⟨rfl, by rw [hU], by rw [hU]; exact hPc, va_K.moved hW.alike hKc, hDc.weaken (fun _ _ _ _ => trivial)⟩⟩ rfl rfl hl.1 rfl (lv_room (Nat.le_of_ble_eq_true rfl)) dX10_read_27 ⟨Nat.le_of_ble_eq_true rfl, Nat.le_of_ble_eq_true rfl⟩) hS (fun q _ h => hFc q h) hFc (fun r_1 u t H1 locs ht hvm hw hB hz1 hk1 hS => ?_)
  obtain ⟨hP1, hD1⟩ := hB
  rw [ht] at hP1
  obtain ⟨hP, hD⟩ := va_join (wr := [(h0, .inr (10, (List.set fs 1 (.ref h1)))), (h1, .inr (9, (List.set (List.set gs 3 (.int 0)) 4 (.int 0))))]) (w1 := [(h2, .inr (8, (List.set (List.set ss 8 (.int 2)) 9 (.int 0))))]) hP hD [2] [0, 1] rfl rfl (by decide) (by decide) hk1 hFc hP1 hD1
  generalize H1 = H at hP hS ⊢
  have hP : va_P (dC, dI) vwCl [(h0, .inr (10, (List.set fs 1 (.ref h1)))), (h1, .inr (9, (List.set (List.set gs 3 (.int 0)) 4 (.int 0)))), (h2, .inr (8, (List.set (List.set ss 8 (.int 2)) 9 (.int 0))))] H := hP
  have hD : va_D A [(h0, .inr (10, (List.set fs 1 (.ref h1)))), (h1, .inr (9, (List.set (List.set gs 3 (.int 0)) 4 (.int 0)))), (h2, .inr (8, (List.set (List.set ss 8 (.int 2)) 9 (.int 0))))] := hD
  refine W.widen (k := 0) (n := 0) (Nat.le_of_ble_eq_true rfl) (Nat.le_of_ble_eq_true rfl) ?_
  refine zz_ci (y := 0) hw ?_
  refine lv_if_eq (tgt := 53) hx hb dX10_read_30 (by decide) (fun c_2 => ?_) (fun c_2 => absurd c_2 (by decide))
  refine lv_iconst (v := 0) hx hb dX10_read_53 (by decide) ?_
  refine W.widen (k := 0) (n := 0) (Nat.le_of_ble_eq_true rfl) (Nat.le_of_ble_eq_true rfl) ?_
  exact W.zret (v := 0) hx hb hr (rfl) (fun t ht hW => ⟨⟨0, (), rfl, rfl, trivial⟩, hS.F ht⟩) hS.2.2 dX10_read_54