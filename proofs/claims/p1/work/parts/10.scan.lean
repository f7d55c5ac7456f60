def u_c_X8_init : List Cond := .code yX8_init cX8_init 4 none :: ([.methodLink RX8 3 objectInit, .instanceMethod objectInit, .code objectInit ⟨#[0xb1]⟩ 1 none, .arrayClass .long, .fieldLink RX8 11 "CakePapers$Scanner" "words" "[J", .arrayClass .int, .fieldLink RX8 15 "CakePapers$Scanner" "bytes" "[I", .fieldLink RX8 19 "CakePapers$Scanner" "faultPlace" "I", .methodLink RX8 25 yJ0_length_8abf5, .instanceMethod yJ0_length_8abf5, .selects RJ0 yJ0_length_8abf5 yJ0_length_8abf5, .initialized RJ0, .code yJ0_length_8abf5 cJ0_length_8abf5 1 (some .int), .fieldLink RJ0 9 "java/lang/String" "value" "[B", .methodLink RJ0 335 yJ0_coder_7d493, .instanceMethod yJ0_coder_7d493, .selects RJ0 yJ0_coder_7d493 yJ0_coder_7d493, .code yJ0_coder_7d493 cJ0_coder_7d493 1 (some .byte), .fieldLink RJ0 38 "java/lang/String" "COMPACT_STRINGS" "Z", .fieldLink RJ0 15 "java/lang/String" "coder" "B", .methodLink RX8 31 yJ0_charAt_5068e, .instanceMethod yJ0_charAt_5068e, .selects RJ0 yJ0_charAt_5068e yJ0_charAt_5068e, .code yJ0_charAt_5068e cJ0_charAt_5068e 2 (some .char), .methodLink RJ0 492 yJ0_isLatin1_aae02, .instanceMethod yJ0_isLatin1_aae02, .selects RJ0 yJ0_isLatin1_aae02 yJ0_isLatin1_aae02, .code yJ0_isLatin1_aae02 cJ0_isLatin1_aae02 1 (some .boolean), .methodLink RJ0 495 yJ1_charAt_3b067, .static yJ1_charAt_3b067, .initialized RJ1, .code yJ1_charAt_3b067 cJ1_charAt_3b067 2 (some .char), .methodLink RJ1 9 yJ0_checkIndex_df160, .static yJ0_checkIndex_df160, .code yJ0_checkIndex_df160 cJ0_checkIndex_df160 2 none, .fieldLink RJ0 1053 "jdk/internal/util/Preconditions" "SIOOBE_FORMATTER" "Ljava/util/function/BiFunction;", .methodLink RJ0 1059 yJ3_checkIndex_8e157, .static yJ3_checkIndex_8e157, .initialized RJ3, .code yJ3_checkIndex_8e157 cJ3_checkIndex_8e157 3 (some .int)] ++ wsX80)
theorem iX8_c_X8_init : ∀ w ∈ wsX80, w ∈ u_c_X8_init := fun w h => List.mem_cons_of_mem _ (List.mem_append_right _ h)
set_option maxRecDepth 20000 in
theorem g_X8_len : GoodIn u_c_X8_init (wsV RX8 25 RJ0 yJ0_length_8abf5 u_len) := goodIn_of _ (by decide +kernel)
set_option maxRecDepth 20000 in
theorem g_X8_ch : GoodIn u_c_X8_init (wsV RX8 31 RJ0 yJ0_charAt_5068e u_ch) := goodIn_of _ (by decide +kernel)
set_option maxHeartbeats 1000000 in
set_option maxRecDepth 100000 in
theorem c_X8_init (l : Launch) (dC : Nat → ClassId) (dI : Nat → Nat → Nat) (sz : Nat) (h0 : Nat) (zq zv : Nat) (zg : Nat → Int32) : Met l yX8_init u_c_X8_init ({ frames := 4, cells := 2, slots := 14, locals := 85 }) (va_Pc [.ref h0] (fun U => U.heap.size = sz ∧ va_P (dC, dI) vwCl [(h0, .inr (8, [.null, .null, .int 0, .int 0, .int 0, .int 0, .int 0, .long 0, .int 0, .int 0]))] U.heap ∧ va_K (dC, dI) vwCl [] U ∧ va_D (fun _ => True) [(h0, .inr (8, [.null, .null, .int 0, .int 0, .int 0, .int 0, .int 0, .long 0, .int 0, .int 0]))] ∧ zS zq zv zg (va_A [(h0, .inr (8, [.null, .null, .int 0, .int 0, .int 0, .int 0, .int 0, .long 0, .int 0, .int 0]))] sz) U U.heap ∧ vk_R RX8 23 zT zq U)) (va_Qv (fun (_ : Unit) => True) (fun _ t => ∃ (q_1 : Nat), ∃ (q_2 : Nat), va_P (dC, dI) vwCl [(h0, .inr (8, [.ref q_1, .ref q_2, .int 0, .int 0, .int 0, .int 0, .int 0, .long 0, .int 0, .int (-1)]))] t.heap ∧ va_D (va_A [(h0, .inr (8, [.null, .null, .int 0, .int 0, .int 0, .int 0, .int 0, .long 0, .int 0, .int 0]))] sz) [(h0, .inr (8, [.ref q_1, .ref q_2, .int 0, .int 0, .int 0, .int 0, .int 0, .long 0, .int 0, .int (-1)]))]) (va_A [(h0, .inr (8, [.null, .null, .int 0, .int 0, .int 0, .int 0, .int 0, .long 0, .int 0, .int 0]))] sz)) 2 14 (va_A [(h0, .inr (8, [.null, .null, .int 0, .int 0, .int 0, .int 0, .int 0, .long 0, .int 0, .int 0]))] sz) := by
  refine Met.ofW (cc := cX8_init) (maxL := 4) (ret := none) (by decide) rfl ?_
  intro p e s m args below meth c s₁ B hml hv
  obtain ⟨rfl, hsz, hP, hK, hD0, hZ, hR⟩ := hv
  have hx := B.exec
  have hb := B.bytes
  have hr := B.returns
  have hts := atoms_spec (ws := u_c_X8_init) B.pre
  have hown : s.vm.findClass RX8 = some m.cls := findClass_of_methodNamed B.named
  have hlocks := B.notSynchronized
  have hin : meth.name = "<init>" := (name_of_methodNamed B.named B.method).1
  have hiX8 := iX8_c_X8_init
  subst hsz
  have hD := hD0.self (sz := s.heap.size)
  generalize hAe : va_A [(h0, .inr (8, [.null, .null, .int 0, .int 0, .int 0, .int 0, .int 0, .long 0, .int 0, .int 0]))] s.heap.size = A at hD hZ ⊢
  have hA : ∀ q : Nat, s.heap.size ≤ q → A q := fun q h => by rw [← hAe]; exact Or.inr h
  have hS : va_S A s.heap s.heap [] := va_S.rf
  obtain ⟨H, hH⟩ : ∃ H : Heap, H = s.heap := ⟨_, rfl⟩
  have hP : va_P (dC, dI) vwCl [(h0, .inr (8, [.null, .null, .int 0, .int 0, .int 0, .int 0, .int 0, .long 0, .int 0, .int 0]))] H := by rw [hH]; exact hP
  have hS : va_S A s.heap H [] := by rw [hH]; exact hS
  have hl := lv_entry ([.ref h0]) (n := 4) (Nat.le_of_ble_eq_true rfl)
  rw [lg_entry_eq]
  generalize (lg_sl ([.ref h0]) ++ List.replicate (4 - (lg_sl ([.ref h0])).length) Slot.unset).toArray = ls at hl ⊢
  have hl : lv_has ls 4 [(0, .ref h0)] := hl
  suffices h9 : W p l e (headSpec u_c_X8_init _).room s m _ below meth c H [] 0 0 _ (F0 m 0 ls []) by rw [hH] at h9; exact h9
  refine lv_aload_n hx hb dX8_init_0 rfl (lv_at hl 0 rfl) ?_
  refine W.objInit hx hb hown (hts (.methodLink RX8 3 objectInit) (by decide +kernel)) (hts (.instanceMethod objectInit) (by decide +kernel)) (hts (.code objectInit ⟨#[0xb1]⟩ 1 none) (by decide +kernel)) rfl (by rw [hml]; exact hl.1) rfl dX8_init_1 (Nat.le_of_ble_eq_true rfl) (Nat.le_of_ble_eq_true rfl) ?_
  refine W.eq (g2 := F0 m 4 ls []) rfl ?_
  refine lv_aload_n hx hb dX8_init_4 rfl (lv_at hl 0 rfl) ?_
  refine lv_bipush (v := 14) hx hb dX8_init_5 (by decide) ?_
  refine va_newa (atype := .long) (ty := .long) (n := 14) (N' := 14) (a0 := (14, .inr (.inl (fun _ => 0)))) hx hb (hts (.arrayClass .long) (by decide +kernel)) rfl hK hP hD hS hA (fun _ => rfl) (by decide) (by decide) (by decide) (Nat.le_of_ble_eq_true rfl) (Nat.le_of_ble_eq_true rfl) dX8_init_7 (fun q_1 cA_1 H hK hP hD hS => ?_)
  have hK : va_K (dC, dI) vwCl [(cA_1, .long)] s := hK
  have hP : va_P (dC, dI) vwCl [(h0, .inr (8, [.null, .null, .int 0, .int 0, .int 0, .int 0, .int 0, .long 0, .int 0, .int 0])), (q_1, .inl (cA_1, 14, .inr (.inl (fun _ => 0))))] H := hP
  have hD : va_D A [(h0, .inr (8, [.null, .null, .int 0, .int 0, .int 0, .int 0, .int 0, .long 0, .int 0, .int 0])), (q_1, .inl (cA_1, 14, .inr (.inl (fun _ => 0))))] := hD
  refine W.widen (k := 1) (n := 14) (Nat.le_of_ble_eq_true rfl) (Nat.le_of_ble_eq_true rfl) ?_
  obtain ⟨f_1, hP, hD⟩ : ∃ f_1 : Nat → Int64, va_P (dC, dI) vwCl [(h0, .inr (8, [.null, .null, .int 0, .int 0, .int 0, .int 0, .int 0, .long 0, .int 0, .int 0])), (q_1, .inl (cA_1, 14, .inr (.inl f_1)))] H ∧ va_D A [(h0, .inr (8, [.null, .null, .int 0, .int 0, .int 0, .int 0, .int 0, .long 0, .int 0, .int 0])), (q_1, .inl (cA_1, 14, .inr (.inl f_1)))] := ⟨_, hP, hD⟩
  refine va_putF (D := (dC, dI)) (ci := 8) (v := .ref q_1) (ty := (.array .long)) (C := RX8) (T := TX8) (N := 10) hx hb hts hiX8 tyX8 tyX8_ok nmX8 hown hK hP hD hS 0 rfl rfl 0 (by decide) (hts (.fieldLink RX8 11 "CakePapers$Scanner" "words" "[J") (by decide +kernel)) (fun _ h9 => h9) rfl hin rfl (by decide +kernel) rfl rfl (Nat.le_of_ble_eq_true rfl) dX8_init_9 (fun H locs hP hD hS => ?_)
  have hP : va_P (dC, dI) vwCl [(h0, .inr (8, [.ref q_1, .null, .int 0, .int 0, .int 0, .int 0, .int 0, .long 0, .int 0, .int 0])), (q_1, .inl (cA_1, 14, .inr (.inl f_1)))] H := hP
  have hD : va_D A [(h0, .inr (8, [.ref q_1, .null, .int 0, .int 0, .int 0, .int 0, .int 0, .long 0, .int 0, .int 0])), (q_1, .inl (cA_1, 14, .inr (.inl f_1)))] := hD
  refine lv_aload_n hx hb dX8_init_12 rfl (lv_at hl 0 rfl) ?_
  refine lv_iconst (v := 0) hx hb dX8_init_13 (by decide) ?_
  refine va_newa (atype := .int) (ty := .int) (n := 0) (N' := 0) (a0 := (0, .inl (fun _ => 0))) hx hb (hts (.arrayClass .int) (by decide +kernel)) rfl hK hP hD hS hA (fun _ => rfl) (by decide) (by decide) (by decide) (Nat.le_of_ble_eq_true rfl) (Nat.le_of_ble_eq_true rfl) dX8_init_14 (fun q_2 cA_2 H hK hP hD hS => ?_)
  have hK : va_K (dC, dI) vwCl [(cA_1, .long), (cA_2, .int)] s := hK
  have hP : va_P (dC, dI) vwCl [(h0, .inr (8, [.ref q_1, .null, .int 0, .int 0, .int 0, .int 0, .int 0, .long 0, .int 0, .int 0])), (q_1, .inl (cA_1, 14, .inr (.inl f_1))), (q_2, .inl (cA_2, 0, .inl (fun _ => 0)))] H := hP
  have hD : va_D A [(h0, .inr (8, [.ref q_1, .null, .int 0, .int 0, .int 0, .int 0, .int 0, .long 0, .int 0, .int 0])), (q_1, .inl (cA_1, 14, .inr (.inl f_1))), (q_2, .inl (cA_2, 0, .inl (fun _ => 0)))] := hD
  refine W.widen (k := 2) (n := 14) (Nat.le_of_ble_eq_true rfl) (Nat.le_of_ble_eq_true rfl) ?_
  have hP := hP.sub (ws' := [(h0, .inr (8, [.ref q_1, .null, .int 0, .int 0, .int 0, .int 0, .int 0, .long 0, .int 0, .int 0])), (q_1, .inl (cA_1, 14, .inr (.inl f_1)))]) [0, 1] rfl
  have hD := hD.sub (ws' := [(h0, .inr (8, [.ref q_1, .null, .int 0, .int 0, .int 0, .int 0, .int 0, .long 0, .int 0, .int 0])), (q_1, .inl (cA_1, 14, .inr (.inl f_1)))]) [0, 1] (by decide) rfl
  have hK := hK.sub (tys' := [(cA_1, .long)]) [0] rfl
  refine va_put (D := (dC, dI)) (ci := 8) (v := .ref q_2) (ty := (.array .int)) (C := RX8) (T := TX8) (N := 10) hx hb hts hiX8 tyX8 tyX8_ok nmX8 hown hK hP hD hS 0 rfl rfl 1 (by decide) (hts (.fieldLink RX8 15 "CakePapers$Scanner" "bytes" "[I") (by decide +kernel)) (fun _ h9 => h9) rfl (by decide +kernel) rfl rfl (Nat.le_of_ble_eq_true rfl) dX8_init_16 (fun H locs hP hD hS => ?_)
  have hP : va_P (dC, dI) vwCl [(h0, .inr (8, [.ref q_1, .ref q_2, .int 0, .int 0, .int 0, .int 0, .int 0, .long 0, .int 0, .int 0])), (q_1, .inl (cA_1, 14, .inr (.inl f_1)))] H := hP
  have hD : va_D A [(h0, .inr (8, [.ref q_1, .ref q_2, .int 0, .int 0, .int 0, .int 0, .int 0, .long 0, .int 0, .int 0])), (q_1, .inl (cA_1, 14, .inr (.inl f_1)))] := hD
  refine lv_aload_n hx hb dX8_init_19 rfl (lv_at hl 0 rfl) ?_
  refine lv_iconst (v := (-1)) hx hb dX8_init_20 (by decide) ?_
  refine va_put (D := (dC, dI)) (ci := 8) (v := .int (-1)) (ty := .int) (C := RX8) (T := TX8) (N := 10) hx hb hts hiX8 tyX8 tyX8_ok nmX8 hown hK hP hD hS 0 rfl rfl 9 (by decide) (hts (.fieldLink RX8 19 "CakePapers$Scanner" "faultPlace" "I") (by decide +kernel)) (fun _ h9 => h9) rfl (by decide +kernel) rfl rfl (Nat.le_of_ble_eq_true rfl) dX8_init_21 (fun H locs hP hD hS => ?_)
  have hP : va_P (dC, dI) vwCl [(h0, .inr (8, [.ref q_1, .ref q_2, .int 0, .int 0, .int 0, .int 0, .int 0, .long 0, .int 0, .int (-1)])), (q_1, .inl (cA_1, 14, .inr (.inl f_1)))] H := hP
  have hD : va_D A [(h0, .inr (8, [.ref q_1, .ref q_2, .int 0, .int 0, .int 0, .int 0, .int 0, .long 0, .int 0, .int (-1)])), (q_1, .inl (cA_1, 14, .inr (.inl f_1)))] := hD
  refine lv_iconst (v := 0) hx hb dX8_init_24 (by decide) ?_
  refine lv_istore_n (lv' := [(1, .int 0), (0, .ref h0)]) hx hb dX8_init_25 rfl hl (by decide) rfl (fun ls hl => ?_)
  refine lv_iconst (v := 0) hx hb dX8_init_26 (by decide) ?_
  refine lv_istore_n (lv' := [(2, .int 0), (1, .int 0), (0, .ref h0)]) hx hb dX8_init_27 rfl hl (by decide) rfl (fun ls hl => ?_)
  have key : ∀ (n i w : Nat), i + n = 61 → w ≤ i → ∀ (fz : Nat → Int64) (H : Heap) (locs : List Loc), va_P (dC, dI) vwCl [(h0, .inr (8, [.ref q_1, .ref q_2, .int 0, .int 0, .int 0, .int 0, .int 0, .long 0, .int 0, .int (-1)])), (q_1, .inl (cA_1, 14, .inr (.inl fz)))] H → va_D A [(h0, .inr (8, [.ref q_1, .ref q_2, .int 0, .int 0, .int 0, .int 0, .int 0, .long 0, .int 0, .int (-1)])), (q_1, .inl (cA_1, 14, .inr (.inl fz)))] → va_S A s.heap H locs → ∀ (ls : Array Slot), lv_has ls 4 [(2, .int (nI i)), (1, .int (nI w)), (0, .ref h0)] → W p l e (headSpec u_c_X8_init ({ frames := 4, cells := 2, slots := 14, locals := 85 })).room s m ([.ref h0] : List Value).toArray below meth c H locs 2 14 (MQ below (va_Qv (fun (_ : Unit) => True) (fun _ t => ∃ (q_1 : Nat), ∃ (q_2 : Nat), va_P (dC, dI) vwCl [(h0, .inr (8, [.ref q_1, .ref q_2, .int 0, .int 0, .int 0, .int 0, .int 0, .long 0, .int 0, .int (-1)]))] t.heap ∧ va_D A [(h0, .inr (8, [.ref q_1, .ref q_2, .int 0, .int 0, .int 0, .int 0, .int 0, .long 0, .int 0, .int (-1)]))]) A) ([.ref h0] : List Value).toArray s 2 14 A) (F0 m 28 ls []) := by
    intro n
    induction n with
    | zero =>
      intro i w hi hwi fz H locs hP hD hS ls hl
      have hi : i = 61 := by omega
      refine lv_iload_n hx hb dX8_init_28 rfl (lv_at hl 0 rfl) ?_
      refine va_ldcS hx hb hown hR dX8_init_29 ?_
      refine vp_callSi (W.runV (As := []) (rest := [.int (nI i)]) ⟨hx, hb, hml, hown, hts⟩ (c_len l zq zv zg) (cwV 0 hts g_X8_len rfl rfl rfl (by decide +kernel) ⟨Nat.le_of_ble_eq_true rfl, Nat.le_of_ble_eq_true rfl⟩) ⟨fun a U g2 mk k => ⟨k.1, zS_moved (U := U.calling g2 mk a) (Vm.Alike.refl U.vm) k.2⟩, va_Orecv hZ.2.1 hS, fun U hU hW => ⟨rfl, by show zS _ _ _ _ U U.heap; rw [hU]; exact zS_moved hW.alike (zS_narrow (zS_kept hZ hS.2.1) (fun _ h => h.elim))⟩⟩ rfl rfl hl.1 rfl (lv_room (Nat.le_of_ble_eq_true rfl)) dX8_init_31 ⟨Nat.le_of_ble_eq_true rfl, Nat.le_of_ble_eq_true rfl⟩) (fun r h_r => ?_)
      subst h_r
      refine lv_icmp_ge (tgt := 86) hx hb dX8_init_34 (by decide) (fun c_0 => ?_) (fun c_0 => absurd (by rw [hi]; decide) c_0)
      refine W.widen (k := 2) (n := 14) (Nat.le_of_ble_eq_true rfl) (Nat.le_of_ble_eq_true rfl) ?_
      have hP9 := hP.sub (ws' := [(h0, .inr (8, [.ref q_1, .ref q_2, .int 0, .int 0, .int 0, .int 0, .int 0, .long 0, .int 0, .int (-1)]))]) [0] rfl
      have hD9 := hD.sub (ws' := [(h0, .inr (8, [.ref q_1, .ref q_2, .int 0, .int 0, .int 0, .int 0, .int 0, .long 0, .int 0, .int (-1)]))]) [0] (by decide) rfl
      exact W.vret hx hb hr (fun t ht hW => ⟨⟨(), rfl, trivial, q_1, q_2, by rw [ht]; exact hP9, hD9⟩, hS.F ht⟩) hS.2.2 dX8_init_86
    | succ n ih =>
      intro i w hi hwi fz H locs hP hD hS ls hl
      have hlt : i < 61 := by omega
      refine lv_iload_n hx hb dX8_init_28 rfl (lv_at hl 0 rfl) ?_
      refine va_ldcS hx hb hown hR dX8_init_29 ?_
      refine vp_callSi (W.runV (As := []) (rest := [.int (nI i)]) ⟨hx, hb, hml, hown, hts⟩ (c_len l zq zv zg) (cwV 0 hts g_X8_len rfl rfl rfl (by decide +kernel) ⟨Nat.le_of_ble_eq_true rfl, Nat.le_of_ble_eq_true rfl⟩) ⟨fun a U g2 mk k => ⟨k.1, zS_moved (U := U.calling g2 mk a) (Vm.Alike.refl U.vm) k.2⟩, va_Orecv hZ.2.1 hS, fun U hU hW => ⟨rfl, by show zS _ _ _ _ U U.heap; rw [hU]; exact zS_moved hW.alike (zS_narrow (zS_kept hZ hS.2.1) (fun _ h => h.elim))⟩⟩ rfl rfl hl.1 rfl (lv_room (Nat.le_of_ble_eq_true rfl)) dX8_init_31 ⟨Nat.le_of_ble_eq_true rfl, Nat.le_of_ble_eq_true rfl⟩) (fun r h_r => ?_)
      subst h_r
      refine lv_icmp_ge (tgt := 86) hx hb dX8_init_34 (by decide) (fun c_0 => absurd c_0 (nI_ge hlt (by decide))) (fun c_0 => ?_)
      refine va_ldcS hx hb hown hR dX8_init_37 ?_
      refine lv_iload_n hx hb dX8_init_39 rfl (lv_at hl 0 rfl) ?_
      refine vp_callSi (W.runV (As := [.int (nI i)]) (rest := []) ⟨hx, hb, hml, hown, hts⟩ (c_ch l zq zv zg (nI i) (nI_pos (by omega)) (nI_lt hlt (by decide))) (cwV 1 hts g_X8_ch rfl rfl rfl (by decide +kernel) ⟨Nat.le_of_ble_eq_true rfl, Nat.le_of_ble_eq_true rfl⟩) ⟨fun a U g2 mk k => ⟨k.1, zS_moved (U := U.calling g2 mk a) (Vm.Alike.refl U.vm) k.2⟩, va_Orecv hZ.2.1 hS, fun U hU hW => ⟨rfl, by show zS _ _ _ _ U U.heap; rw [hU]; exact zS_moved hW.alike (zS_narrow (zS_kept hZ hS.2.1) (fun _ h => h.elim))⟩⟩ rfl rfl hl.1 rfl (lv_room (Nat.le_of_ble_eq_true rfl)) dX8_init_40 ⟨Nat.le_of_ble_eq_true rfl, Nat.le_of_ble_eq_true rfl⟩) (fun r_c _ => ?_)
      refine lv_istore_n (lv' := [(3, .int r_c), (2, .int (nI i)), (1, .int (nI w)), (0, .ref h0)]) hx hb dX8_init_43 rfl hl (by decide) rfl (fun ls hl => ?_)
      refine lv_iload_n hx hb dX8_init_44 rfl (lv_at hl 0 rfl) ?_
      refine lv_bipush (v := 32) hx hb dX8_init_45 (by decide) ?_
      refine lv_icmp_ne (tgt := 56) hx hb dX8_init_47 (by decide) (fun c_3 => ?_) (fun c_3 => ?_)
      · refine lv_iload_n hx hb dX8_init_56 rfl (lv_at hl 2 rfl) ?_
        refine lv_bipush (v := 14) hx hb dX8_init_57 (by decide) ?_
        refine lv_icmp_ge (tgt := 80) hx hb dX8_init_59 (by decide) (fun c_4 => ?_) (fun c_4 => ?_)
        · refine lv_iinc (v := ((nI i) + 1)) (lv' := [(2, .int ((nI i) + 1)), (3, .int r_c), (1, .int (nI w)), (0, .ref h0)]) hx hb dX8_init_80 hl (k := 1) rfl rfl (by decide) rfl (fun ls hl => ?_)
          refine lv_goto (tgt := 28) hx hb dX8_init_83 (by decide) ?_
          exact ih (i + 1) w (by omega) (by omega) fz H locs hP hD hS ls (by rw [← nI_1 i]; exact lv_sub hl [0, 2, 3] rfl)
        · refine lv_aload_n hx hb dX8_init_62 rfl (lv_at hl 3 rfl) ?_
          refine va_get (D := (dC, dI)) (ci := 8) (v := .ref q_1) (C := RX8) (T := TX8) (N := 10) hx hb hts hiX8 hown hK hP 0 rfl rfl 0 (by decide) (hts (.fieldLink RX8 11 "CakePapers$Scanner" "words" "[J") (by decide +kernel)) (fun _ h9 => h9) rfl dX8_init_63 ?_
          refine lv_iload_n hx hb dX8_init_66 rfl (lv_at hl 2 rfl) ?_
          refine lv_aload_n hx hb dX8_init_67 rfl (lv_at hl 3 rfl) ?_
          refine va_get (D := (dC, dI)) (ci := 8) (v := .ref q_1) (C := RX8) (T := TX8) (N := 10) hx hb hts hiX8 hown hK hP 0 rfl rfl 0 (by decide) (hts (.fieldLink RX8 11 "CakePapers$Scanner" "words" "[J") (by decide +kernel)) (fun _ h9 => h9) rfl dX8_init_68 ?_
          refine lv_iload_n hx hb dX8_init_71 rfl (lv_at hl 2 rfl) ?_
          refine va_lald hx hb hK hP 1 0 rfl rfl (zz_w14 (by omega) c_4) dX8_init_72 ?_
          refine lv_topl (fun v_5 _ => ?_)
          refine lv_bipush (v := 8) hx hb dX8_init_73 (by decide) ?_
          refine lv_lshl hx hb dX8_init_75 rfl ?_
          refine lv_topl (fun v_6 _ => ?_)
          refine lv_iload_n hx hb dX8_init_76 rfl (lv_at hl 0 rfl) ?_
          refine lv_i2l hx hb dX8_init_77 rfl ?_
          refine lv_topl (fun v_7 _ => ?_)
          refine lv_lor hx hb dX8_init_78 ?_
          refine lv_topl (fun v_8 _ => ?_)
          refine va_last hx hb hK hP hD hS 1 0 rfl rfl (zz_w14 (by omega) c_4) dX8_init_79 (fun H locs hP hD hS => ?_)
          obtain ⟨f_9, hP, hD⟩ : ∃ f_9 : Nat → Int64, va_P (dC, dI) vwCl [(h0, .inr (8, [.ref q_1, .ref q_2, .int 0, .int 0, .int 0, .int 0, .int 0, .long 0, .int 0, .int (-1)])), (q_1, .inl (cA_1, 14, .inr (.inl f_9)))] H ∧ va_D A [(h0, .inr (8, [.ref q_1, .ref q_2, .int 0, .int 0, .int 0, .int 0, .int 0, .long 0, .int 0, .int (-1)])), (q_1, .inl (cA_1, 14, .inr (.inl f_9)))] := ⟨_, hP, hD⟩
          refine lv_iinc (v := ((nI i) + 1)) (lv' := [(2, .int ((nI i) + 1)), (3, .int r_c), (1, .int (nI w)), (0, .ref h0)]) hx hb dX8_init_80 hl (k := 1) rfl rfl (by decide) rfl (fun ls hl => ?_)
          refine lv_goto (tgt := 28) hx hb dX8_init_83 (by decide) ?_
          exact ih (i + 1) w (by omega) (by omega) f_9 H locs hP hD hS ls (by rw [← nI_1 i]; exact lv_sub hl [0, 2, 3] rfl)
      · refine lv_iinc (v := ((nI w) + 1)) (lv' := [(1, .int ((nI w) + 1)), (3, .int r_c), (2, .int (nI i)), (0, .ref h0)]) hx hb dX8_init_50 hl (k := 2) rfl rfl (by decide) rfl (fun ls hl => ?_)
        refine lv_goto (tgt := 80) hx hb dX8_init_53 (by decide) ?_
        refine lv_iinc (v := ((nI i) + 1)) (lv' := [(2, .int ((nI i) + 1)), (1, .int ((nI w) + 1)), (3, .int r_c), (0, .ref h0)]) hx hb dX8_init_80 hl (k := 2) rfl rfl (by decide) rfl (fun ls hl => ?_)
        refine lv_goto (tgt := 28) hx hb dX8_init_83 (by decide) ?_
        exact ih (i + 1) (w + 1) (by omega) (by omega) fz H locs hP hD hS ls (by rw [← nI_1 i, ← nI_1 w]; exact lv_sub hl [0, 1, 3] rfl)
  exact key 61 0 0 rfl (Nat.le_refl 0) f_1 H locs hP hD hS ls hl