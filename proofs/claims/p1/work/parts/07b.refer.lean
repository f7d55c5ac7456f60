def u_c_X12_feed : List Cond := .code yX12_feed cX12_feed 8 (some .int) :: ([.fieldLink RX12 247 "CakePapersModel" "taped" "I", .fieldLink RX12 7 "CakePapersModel" "tape" "[B"] ++ wsX120)
theorem iX12_c_X12_feed : ∀ w ∈ wsX120, w ∈ u_c_X12_feed := fun w h => List.mem_cons_of_mem _ (List.mem_append_right _ h)
set_option maxHeartbeats 1000000 in
set_option maxRecDepth 100000 in
theorem c_X12_feed (l : Launch) (dC : Nat → ClassId) (dI : Nat → Nat → Nat) (sz : Nat) (h0 h1 : Nat) (cY : ClassId) (f : Nat → Int32) (fs : List Value) (hn_fs : fs.length = 80) (e_fs_0 : fs[0]? = some (.ref h1)) (e_fs_2 : fs[2]? = some (.int 0)) (p0 : Int32) (p1 : Int32) (p2 : Int32) (p3 : Int32) (p4 : Int32) : Met l yX12_feed u_c_X12_feed ({ frames := 0, cells := 0, slots := 0, locals := 0 }) (va_Pc [.ref h0, .int p0, .int p1, .int p2, .int p3, .int p4] (fun U => U.heap.size = sz ∧ va_P (dC, dI) vwCl [(h0, .inr (12, fs)), (h1, .inl (cY, 1220, .inl f))] U.heap ∧ va_K (dC, dI) vwCl [(cY, .byte)] U ∧ va_D (fun _ => True) [(h0, .inr (12, fs)), (h1, .inl (cY, 1220, .inl f))])) (va_Qi (fun (r : Int32) (_ : Unit) => r = 20) (fun _ _ => True) (va_A [(h0, .inr (12, fs)), (h1, .inl (cY, 1220, .inl f))] sz)) 0 0 (va_A [(h0, .inr (12, fs)), (h1, .inl (cY, 1220, .inl f))] sz) := by
  refine Met.ofW (cc := cX12_feed) (maxL := 8) (ret := (some .int)) (by decide) rfl ?_
  intro p e s m args below meth c s₁ B hml hv
  obtain ⟨rfl, hsz, hP, hK, hD0⟩ := hv
  have hx := B.exec
  have hb := B.bytes
  have hr := B.returns
  have hts := atoms_spec (ws := u_c_X12_feed) B.pre
  have hown : s.vm.findClass RX12 = some m.cls := findClass_of_methodNamed B.named
  have hlocks := B.notSynchronized
  have hiX12 := iX12_c_X12_feed
  subst hsz
  have hD := hD0.self (sz := s.heap.size)
  generalize hAe : va_A [(h0, .inr (12, fs)), (h1, .inl (cY, 1220, .inl f))] s.heap.size = A at hD ⊢
  have hA : ∀ q : Nat, s.heap.size ≤ q → A q := fun q h => by rw [← hAe]; exact Or.inr h
  have hS : va_S A s.heap s.heap [] := va_S.rf
  obtain ⟨H, hH⟩ : ∃ H : Heap, H = s.heap := ⟨_, rfl⟩
  have hP : va_P (dC, dI) vwCl [(h0, .inr (12, fs)), (h1, .inl (cY, 1220, .inl f))] H := by rw [hH]; exact hP
  have hS : va_S A s.heap H [] := by rw [hH]; exact hS
  have hl := lv_entry ([.ref h0, .int p0, .int p1, .int p2, .int p3, .int p4]) (n := 8) (Nat.le_of_ble_eq_true rfl)
  rw [lg_entry_eq]
  generalize (lg_sl ([.ref h0, .int p0, .int p1, .int p2, .int p3, .int p4]) ++ List.replicate (8 - (lg_sl ([.ref h0, .int p0, .int p1, .int p2, .int p3, .int p4])).length) Slot.unset).toArray = ls at hl ⊢
  have hl : lv_has ls 8 [(0, .ref h0), (1, .int p0), (2, .int p1), (3, .int p2), (4, .int p3), (5, .int p4)] := hl
  suffices h9 : W p l e (headSpec u_c_X12_feed _).room s m _ below meth c H [] 0 0 _ (F0 m 0 ls []) by rw [hH] at h9; exact h9
  refine lv_aload_n hx hb dX12_feed_0 rfl (lv_at hl 0 rfl) ?_
  refine va_get (D := (dC, dI)) (ci := 12) (v := .int 0) (C := RX12) (T := TX12) (N := 80) hx hb hts hiX12 hown hK hP 0 rfl rfl 2 (by decide) (hts (.fieldLink RX12 247 "CakePapersModel" "taped" "I") (by decide +kernel)) (fun _ h9 => h9) e_fs_2 dX12_feed_1 ?_
  refine lv_bipush (v := 20) hx hb dX12_feed_4 (by decide) ?_
  refine lv_iadd hx hb dX12_feed_6 ?_
  refine zz_ci (y := 20) (by decide) ?_
  refine lv_sipush (v := 1200) hx hb dX12_feed_7 (by decide) ?_
  refine lv_icmp_le (tgt := 15) hx hb dX12_feed_10 (by decide) (fun c_1 => ?_) (fun c_1 => absurd c_1 (by decide))
  refine lv_iconst (v := 0) hx hb dX12_feed_15 (by decide) ?_
  refine lv_istore (lv' := [(6, .int 0), (0, .ref h0), (1, .int p0), (2, .int p1), (3, .int p2), (4, .int p3), (5, .int p4)]) hx hb dX12_feed_16 hl (by decide) rfl (fun ls hl => ?_)
  refine lv_iload hx hb dX12_feed_18 (lv_at hl 0 rfl) ?_
  refine lv_bipush (v := 20) hx hb dX12_feed_20 (by decide) ?_
  refine lv_icmp_ge (tgt := 105) hx hb dX12_feed_22 (by decide) (fun c_2 => absurd c_2 (by decide)) (fun c_2 => ?_)
  refine lv_iload hx hb dX12_feed_25 (lv_at hl 0 rfl) ?_
  refine lv_iconst (v := 4) hx hb dX12_feed_27 (by decide) ?_
  refine lv_icmp_ge (tgt := 35) hx hb dX12_feed_28 (by decide) (fun c_3 => absurd c_3 (by decide)) (fun c_3 => ?_)
  refine lv_iload_n hx hb dX12_feed_31 rfl (lv_at hl 2 rfl) ?_
  refine lv_goto (tgt := 71) hx hb dX12_feed_32 (by decide) ?_
  refine lv_istore (lv' := [(7, .int p0), (6, .int 0), (0, .ref h0), (1, .int p0), (2, .int p1), (3, .int p2), (4, .int p3), (5, .int p4)]) hx hb dX12_feed_71 hl (by decide) rfl (fun ls hl => ?_)
  refine lv_aload_n hx hb dX12_feed_73 rfl (lv_at hl 2 rfl) ?_
  refine va_get (D := (dC, dI)) (ci := 12) (v := .ref h1) (C := RX12) (T := TX12) (N := 80) hx hb hts hiX12 hown hK hP 0 rfl rfl 0 (by decide) (hts (.fieldLink RX12 7 "CakePapersModel" "tape" "[B") (by decide +kernel)) (fun _ h9 => h9) e_fs_0 dX12_feed_74 ?_
  refine lv_aload_n hx hb dX12_feed_77 rfl (lv_at hl 2 rfl) ?_
  refine va_get (D := (dC, dI)) (ci := 12) (v := .int 0) (C := RX12) (T := TX12) (N := 80) hx hb hts hiX12 hown hK hP 0 rfl rfl 2 (by decide) (hts (.fieldLink RX12 247 "CakePapersModel" "taped" "I") (by decide +kernel)) (fun _ h9 => h9) e_fs_2 dX12_feed_78 ?_
  refine lv_iload hx hb dX12_feed_81 (lv_at hl 1 rfl) ?_
  refine lv_iadd hx hb dX12_feed_83 ?_
  refine zz_ci (y := 0) (by decide) ?_
  refine lv_iload hx hb dX12_feed_84 (lv_at hl 0 rfl) ?_
  refine lv_bipush (v := 24) hx hb dX12_feed_86 (by decide) ?_
  refine lv_bipush (v := 8) hx hb dX12_feed_88 (by decide) ?_
  refine lv_iload hx hb dX12_feed_90 (lv_at hl 1 rfl) ?_
  refine lv_iconst (v := 3) hx hb dX12_feed_92 (by decide) ?_
  refine lv_iand hx hb dX12_feed_93 ?_
  refine zz_ci (y := 0) (by decide) ?_
  refine lv_imul hx hb dX12_feed_94 ?_
  refine zz_ci (y := 0) (by decide) ?_
  refine lv_isub hx hb dX12_feed_95 ?_
  refine zz_ci (y := 24) (by decide) ?_
  refine lv_ishr hx hb dX12_feed_96 ?_
  refine lv_topi (fun v_4 _ => ?_)
  refine lv_i2b hx hb dX12_feed_97 rfl ?_
  refine lv_topi (fun v_5 _ => ?_)
  refine va_bast hx hb hK hP hD hS 1 0 rfl rfl (zz_in (by decide)) dX12_feed_98 (fun H locs hP hD hS => ?_)
  obtain ⟨f_6, hP, hD⟩ : ∃ f_6 : Nat → Int32, va_P (dC, dI) vwCl [(h0, .inr (12, fs)), (h1, .inl (cY, 1220, .inl f_6))] H ∧ va_D A [(h0, .inr (12, fs)), (h1, .inl (cY, 1220, .inl f_6))] := ⟨_, hP, hD⟩
  refine lv_iinc (v := 1) (lv' := [(6, .int 1), (7, .int p0), (0, .ref h0), (1, .int p0), (2, .int p1), (3, .int p2), (4, .int p3), (5, .int p4)]) hx hb dX12_feed_99 hl (k := 1) rfl (by decide) (by decide) rfl (fun ls hl => ?_)
  refine lv_goto (tgt := 18) hx hb dX12_feed_102 (by decide) ?_
  refine lv_iload hx hb dX12_feed_18 (lv_at hl 0 rfl) ?_
  refine lv_bipush (v := 20) hx hb dX12_feed_20 (by decide) ?_
  refine lv_icmp_ge (tgt := 105) hx hb dX12_feed_22 (by decide) (fun c_7 => absurd c_7 (by decide)) (fun c_7 => ?_)
  refine lv_iload hx hb dX12_feed_25 (lv_at hl 0 rfl) ?_
  refine lv_iconst (v := 4) hx hb dX12_feed_27 (by decide) ?_
  refine lv_icmp_ge (tgt := 35) hx hb dX12_feed_28 (by decide) (fun c_8 => absurd c_8 (by decide)) (fun c_8 => ?_)
  refine lv_iload_n hx hb dX12_feed_31 rfl (lv_at hl 3 rfl) ?_
  refine lv_goto (tgt := 71) hx hb dX12_feed_32 (by decide) ?_
  refine lv_istore (lv' := [(7, .int p0), (6, .int 1), (0, .ref h0), (1, .int p0), (2, .int p1), (3, .int p2), (4, .int p3), (5, .int p4)]) hx hb dX12_feed_71 hl (by decide) rfl (fun ls hl => ?_)
  refine lv_aload_n hx hb dX12_feed_73 rfl (lv_at hl 2 rfl) ?_
  refine va_get (D := (dC, dI)) (ci := 12) (v := .ref h1) (C := RX12) (T := TX12) (N := 80) hx hb hts hiX12 hown hK hP 0 rfl rfl 0 (by decide) (hts (.fieldLink RX12 7 "CakePapersModel" "tape" "[B") (by decide +kernel)) (fun _ h9 => h9) e_fs_0 dX12_feed_74 ?_
  refine lv_aload_n hx hb dX12_feed_77 rfl (lv_at hl 2 rfl) ?_
  refine va_get (D := (dC, dI)) (ci := 12) (v := .int 0) (C := RX12) (T := TX12) (N := 80) hx hb hts hiX12 hown hK hP 0 rfl rfl 2 (by decide) (hts (.fieldLink RX12 247 "CakePapersModel" "taped" "I") (by decide +kernel)) (fun _ h9 => h9) e_fs_2 dX12_feed_78 ?_
  refine lv_iload hx hb dX12_feed_81 (lv_at hl 1 rfl) ?_
  refine lv_iadd hx hb dX12_feed_83 ?_
  refine zz_ci (y := 1) (by decide) ?_
  refine lv_iload hx hb dX12_feed_84 (lv_at hl 0 rfl) ?_
  refine lv_bipush (v := 24) hx hb dX12_feed_86 (by decide) ?_
  refine lv_bipush (v := 8) hx hb dX12_feed_88 (by decide) ?_
  refine lv_iload hx hb dX12_feed_90 (lv_at hl 1 rfl) ?_
  refine lv_iconst (v := 3) hx hb dX12_feed_92 (by decide) ?_
  refine lv_iand hx hb dX12_feed_93 ?_
  refine zz_ci (y := 1) (by decide) ?_
  refine lv_imul hx hb dX12_feed_94 ?_
  refine zz_ci (y := 8) (by decide) ?_
  refine lv_isub hx hb dX12_feed_95 ?_
  refine zz_ci (y := 16) (by decide) ?_
  refine lv_ishr hx hb dX12_feed_96 ?_
  refine lv_topi (fun v_9 _ => ?_)
  refine lv_i2b hx hb dX12_feed_97 rfl ?_
  refine lv_topi (fun v_10 _ => ?_)
  refine va_bast hx hb hK hP hD hS 1 0 rfl rfl (zz_in (by decide)) dX12_feed_98 (fun H locs hP hD hS => ?_)
  obtain ⟨f_11, hP, hD⟩ : ∃ f_11 : Nat → Int32, va_P (dC, dI) vwCl [(h0, .inr (12, fs)), (h1, .inl (cY, 1220, .inl f_11))] H ∧ va_D A [(h0, .inr (12, fs)), (h1, .inl (cY, 1220, .inl f_11))] := ⟨_, hP, hD⟩
  refine lv_iinc (v := 2) (lv' := [(6, .int 2), (7, .int p0), (0, .ref h0), (1, .int p0), (2, .int p1), (3, .int p2), (4, .int p3), (5, .int p4)]) hx hb dX12_feed_99 hl (k := 1) rfl (by decide) (by decide) rfl (fun ls hl => ?_)
  refine lv_goto (tgt := 18) hx hb dX12_feed_102 (by decide) ?_
  refine lv_iload hx hb dX12_feed_18 (lv_at hl 0 rfl) ?_
  refine lv_bipush (v := 20) hx hb dX12_feed_20 (by decide) ?_
  refine lv_icmp_ge (tgt := 105) hx hb dX12_feed_22 (by decide) (fun c_12 => absurd c_12 (by decide)) (fun c_12 => ?_)
  refine lv_iload hx hb dX12_feed_25 (lv_at hl 0 rfl) ?_
  refine lv_iconst (v := 4) hx hb dX12_feed_27 (by decide) ?_
  refine lv_icmp_ge (tgt := 35) hx hb dX12_feed_28 (by decide) (fun c_13 => absurd c_13 (by decide)) (fun c_13 => ?_)
  refine lv_iload_n hx hb dX12_feed_31 rfl (lv_at hl 3 rfl) ?_
  refine lv_goto (tgt := 71) hx hb dX12_feed_32 (by decide) ?_
  refine lv_istore (lv' := [(7, .int p0), (6, .int 2), (0, .ref h0), (1, .int p0), (2, .int p1), (3, .int p2), (4, .int p3), (5, .int p4)]) hx hb dX12_feed_71 hl (by decide) rfl (fun ls hl => ?_)
  refine lv_aload_n hx hb dX12_feed_73 rfl (lv_at hl 2 rfl) ?_
  refine va_get (D := (dC, dI)) (ci := 12) (v := .ref h1) (C := RX12) (T := TX12) (N := 80) hx hb hts hiX12 hown hK hP 0 rfl rfl 0 (by decide) (hts (.fieldLink RX12 7 "CakePapersModel" "tape" "[B") (by decide +kernel)) (fun _ h9 => h9) e_fs_0 dX12_feed_74 ?_
  refine lv_aload_n hx hb dX12_feed_77 rfl (lv_at hl 2 rfl) ?_
  refine va_get (D := (dC, dI)) (ci := 12) (v := .int 0) (C := RX12) (T := TX12) (N := 80) hx hb hts hiX12 hown hK hP 0 rfl rfl 2 (by decide) (hts (.fieldLink RX12 247 "CakePapersModel" "taped" "I") (by decide +kernel)) (fun _ h9 => h9) e_fs_2 dX12_feed_78 ?_
  refine lv_iload hx hb dX12_feed_81 (lv_at hl 1 rfl) ?_
  refine lv_iadd hx hb dX12_feed_83 ?_
  refine zz_ci (y := 2) (by decide) ?_
  refine lv_iload hx hb dX12_feed_84 (lv_at hl 0 rfl) ?_
  refine lv_bipush (v := 24) hx hb dX12_feed_86 (by decide) ?_
  refine lv_bipush (v := 8) hx hb dX12_feed_88 (by decide) ?_
  refine lv_iload hx hb dX12_feed_90 (lv_at hl 1 rfl) ?_
  refine lv_iconst (v := 3) hx hb dX12_feed_92 (by decide) ?_
  refine lv_iand hx hb dX12_feed_93 ?_
  refine zz_ci (y := 2) (by decide) ?_
  refine lv_imul hx hb dX12_feed_94 ?_
  refine zz_ci (y := 16) (by decide) ?_
  refine lv_isub hx hb dX12_feed_95 ?_
  refine zz_ci (y := 8) (by decide) ?_
  refine lv_ishr hx hb dX12_feed_96 ?_
  refine lv_topi (fun v_14 _ => ?_)
  refine lv_i2b hx hb dX12_feed_97 rfl ?_
  refine lv_topi (fun v_15 _ => ?_)
  refine va_bast hx hb hK hP hD hS 1 0 rfl rfl (zz_in (by decide)) dX12_feed_98 (fun H locs hP hD hS => ?_)
  obtain ⟨f_16, hP, hD⟩ : ∃ f_16 : Nat → Int32, va_P (dC, dI) vwCl [(h0, .inr (12, fs)), (h1, .inl (cY, 1220, .inl f_16))] H ∧ va_D A [(h0, .inr (12, fs)), (h1, .inl (cY, 1220, .inl f_16))] := ⟨_, hP, hD⟩
  refine lv_iinc (v := 3) (lv' := [(6, .int 3), (7, .int p0), (0, .ref h0), (1, .int p0), (2, .int p1), (3, .int p2), (4, .int p3), (5, .int p4)]) hx hb dX12_feed_99 hl (k := 1) rfl (by decide) (by decide) rfl (fun ls hl => ?_)
  refine lv_goto (tgt := 18) hx hb dX12_feed_102 (by decide) ?_
  refine lv_iload hx hb dX12_feed_18 (lv_at hl 0 rfl) ?_
  refine lv_bipush (v := 20) hx hb dX12_feed_20 (by decide) ?_
  refine lv_icmp_ge (tgt := 105) hx hb dX12_feed_22 (by decide) (fun c_17 => absurd c_17 (by decide)) (fun c_17 => ?_)
  refine lv_iload hx hb dX12_feed_25 (lv_at hl 0 rfl) ?_
  refine lv_iconst (v := 4) hx hb dX12_feed_27 (by decide) ?_
  refine lv_icmp_ge (tgt := 35) hx hb dX12_feed_28 (by decide) (fun c_18 => absurd c_18 (by decide)) (fun c_18 => ?_)
  refine lv_iload_n hx hb dX12_feed_31 rfl (lv_at hl 3 rfl) ?_
  refine lv_goto (tgt := 71) hx hb dX12_feed_32 (by decide) ?_
  refine lv_istore (lv' := [(7, .int p0), (6, .int 3), (0, .ref h0), (1, .int p0), (2, .int p1), (3, .int p2), (4, .int p3), (5, .int p4)]) hx hb dX12_feed_71 hl (by decide) rfl (fun ls hl => ?_)
  refine lv_aload_n hx hb dX12_feed_73 rfl (lv_at hl 2 rfl) ?_
  refine va_get (D := (dC, dI)) (ci := 12) (v := .ref h1) (C := RX12) (T := TX12) (N := 80) hx hb hts hiX12 hown hK hP 0 rfl rfl 0 (by decide) (hts (.fieldLink RX12 7 "CakePapersModel" "tape" "[B") (by decide +kernel)) (fun _ h9 => h9) e_fs_0 dX12_feed_74 ?_
  refine lv_aload_n hx hb dX12_feed_77 rfl (lv_at hl 2 rfl) ?_
  refine va_get (D := (dC, dI)) (ci := 12) (v := .int 0) (C := RX12) (T := TX12) (N := 80) hx hb hts hiX12 hown hK hP 0 rfl rfl 2 (by decide) (hts (.fieldLink RX12 247 "CakePapersModel" "taped" "I") (by decide +kernel)) (fun _ h9 => h9) e_fs_2 dX12_feed_78 ?_
  refine lv_iload hx hb dX12_feed_81 (lv_at hl 1 rfl) ?_
  refine lv_iadd hx hb dX12_feed_83 ?_
  refine zz_ci (y := 3) (by decide) ?_
  refine lv_iload hx hb dX12_feed_84 (lv_at hl 0 rfl) ?_
  refine lv_bipush (v := 24) hx hb dX12_feed_86 (by decide) ?_
  refine lv_bipush (v := 8) hx hb dX12_feed_88 (by decide) ?_
  refine lv_iload hx hb dX12_feed_90 (lv_at hl 1 rfl) ?_
  refine lv_iconst (v := 3) hx hb dX12_feed_92 (by decide) ?_
  refine lv_iand hx hb dX12_feed_93 ?_
  refine zz_ci (y := 3) (by decide) ?_
  refine lv_imul hx hb dX12_feed_94 ?_
  refine zz_ci (y := 24) (by decide) ?_
  refine lv_isub hx hb dX12_feed_95 ?_
  refine zz_ci (y := 0) (by decide) ?_
  refine lv_ishr hx hb dX12_feed_96 ?_
  refine lv_topi (fun v_19 _ => ?_)
  refine lv_i2b hx hb dX12_feed_97 rfl ?_
  refine lv_topi (fun v_20 _ => ?_)
  refine va_bast hx hb hK hP hD hS 1 0 rfl rfl (zz_in (by decide)) dX12_feed_98 (fun H locs hP hD hS => ?_)
  obtain ⟨f_21, hP, hD⟩ : ∃ f_21 : Nat → Int32, va_P (dC, dI) vwCl [(h0, .inr (12, fs)), (h1, .inl (cY, 1220, .inl f_21))] H ∧ va_D A [(h0, .inr (12, fs)), (h1, .inl (cY, 1220, .inl f_21))] := ⟨_, hP, hD⟩
  refine lv_iinc (v := 4) (lv' := [(6, .int 4), (7, .int p0), (0, .ref h0), (1, .int p0), (2, .int p1), (3, .int p2), (4, .int p3), (5, .int p4)]) hx hb dX12_feed_99 hl (k := 1) rfl (by decide) (by decide) rfl (fun ls hl => ?_)
  refine lv_goto (tgt := 18) hx hb dX12_feed_102 (by decide) ?_
  refine lv_iload hx hb dX12_feed_18 (lv_at hl 0 rfl) ?_
  refine lv_bipush (v := 20) hx hb dX12_feed_20 (by decide) ?_
  refine lv_icmp_ge (tgt := 105) hx hb dX12_feed_22 (by decide) (fun c_22 => absurd c_22 (by decide)) (fun c_22 => ?_)
  refine lv_iload hx hb dX12_feed_25 (lv_at hl 0 rfl) ?_
  refine lv_iconst (v := 4) hx hb dX12_feed_27 (by decide) ?_
  refine lv_icmp_ge (tgt := 35) hx hb dX12_feed_28 (by decide) (fun c_23 => ?_) (fun c_23 => absurd c_23 (by decide))
  refine lv_iload hx hb dX12_feed_35 (lv_at hl 0 rfl) ?_
  refine lv_bipush (v := 8) hx hb dX12_feed_37 (by decide) ?_
  refine lv_icmp_ge (tgt := 46) hx hb dX12_feed_39 (by decide) (fun c_24 => absurd c_24 (by decide)) (fun c_24 => ?_)
  refine lv_iload_n hx hb dX12_feed_42 rfl (lv_at hl 4 rfl) ?_
  refine lv_goto (tgt := 71) hx hb dX12_feed_43 (by decide) ?_
  refine lv_istore (lv' := [(7, .int p1), (6, .int 4), (0, .ref h0), (1, .int p0), (2, .int p1), (3, .int p2), (4, .int p3), (5, .int p4)]) hx hb dX12_feed_71 hl (by decide) rfl (fun ls hl => ?_)
  refine lv_aload_n hx hb dX12_feed_73 rfl (lv_at hl 2 rfl) ?_
  refine va_get (D := (dC, dI)) (ci := 12) (v := .ref h1) (C := RX12) (T := TX12) (N := 80) hx hb hts hiX12 hown hK hP 0 rfl rfl 0 (by decide) (hts (.fieldLink RX12 7 "CakePapersModel" "tape" "[B") (by decide +kernel)) (fun _ h9 => h9) e_fs_0 dX12_feed_74 ?_
  refine lv_aload_n hx hb dX12_feed_77 rfl (lv_at hl 2 rfl) ?_
  refine va_get (D := (dC, dI)) (ci := 12) (v := .int 0) (C := RX12) (T := TX12) (N := 80) hx hb hts hiX12 hown hK hP 0 rfl rfl 2 (by decide) (hts (.fieldLink RX12 247 "CakePapersModel" "taped" "I") (by decide +kernel)) (fun _ h9 => h9) e_fs_2 dX12_feed_78 ?_
  refine lv_iload hx hb dX12_feed_81 (lv_at hl 1 rfl) ?_
  refine lv_iadd hx hb dX12_feed_83 ?_
  refine zz_ci (y := 4) (by decide) ?_
  refine lv_iload hx hb dX12_feed_84 (lv_at hl 0 rfl) ?_
  refine lv_bipush (v := 24) hx hb dX12_feed_86 (by decide) ?_
  refine lv_bipush (v := 8) hx hb dX12_feed_88 (by decide) ?_
  refine lv_iload hx hb dX12_feed_90 (lv_at hl 1 rfl) ?_
  refine lv_iconst (v := 3) hx hb dX12_feed_92 (by decide) ?_
  refine lv_iand hx hb dX12_feed_93 ?_
  refine zz_ci (y := 0) (by decide) ?_
  refine lv_imul hx hb dX12_feed_94 ?_
  refine zz_ci (y := 0) (by decide) ?_
  refine lv_isub hx hb dX12_feed_95 ?_
  refine zz_ci (y := 24) (by decide) ?_
  refine lv_ishr hx hb dX12_feed_96 ?_
  refine lv_topi (fun v_25 _ => ?_)
  refine lv_i2b hx hb dX12_feed_97 rfl ?_
  refine lv_topi (fun v_26 _ => ?_)
  refine va_bast hx hb hK hP hD hS 1 0 rfl rfl (zz_in (by decide)) dX12_feed_98 (fun H locs hP hD hS => ?_)
  obtain ⟨f_27, hP, hD⟩ : ∃ f_27 : Nat → Int32, va_P (dC, dI) vwCl [(h0, .inr (12, fs)), (h1, .inl (cY, 1220, .inl f_27))] H ∧ va_D A [(h0, .inr (12, fs)), (h1, .inl (cY, 1220, .inl f_27))] := ⟨_, hP, hD⟩
  refine lv_iinc (v := 5) (lv' := [(6, .int 5), (7, .int p1), (0, .ref h0), (1, .int p0), (2, .int p1), (3, .int p2), (4, .int p3), (5, .int p4)]) hx hb dX12_feed_99 hl (k := 1) rfl (by decide) (by decide) rfl (fun ls hl => ?_)
  refine lv_goto (tgt := 18) hx hb dX12_feed_102 (by decide) ?_
  refine lv_iload hx hb dX12_feed_18 (lv_at hl 0 rfl) ?_
  refine lv_bipush (v := 20) hx hb dX12_feed_20 (by decide) ?_
  refine lv_icmp_ge (tgt := 105) hx hb dX12_feed_22 (by decide) (fun c_28 => absurd c_28 (by decide)) (fun c_28 => ?_)
  refine lv_iload hx hb dX12_feed_25 (lv_at hl 0 rfl) ?_
  refine lv_iconst (v := 4) hx hb dX12_feed_27 (by decide) ?_
  refine lv_icmp_ge (tgt := 35) hx hb dX12_feed_28 (by decide) (fun c_29 => ?_) (fun c_29 => absurd c_29 (by decide))
  refine lv_iload hx hb dX12_feed_35 (lv_at hl 0 rfl) ?_
  refine lv_bipush (v := 8) hx hb dX12_feed_37 (by decide) ?_
  refine lv_icmp_ge (tgt := 46) hx hb dX12_feed_39 (by decide) (fun c_30 => absurd c_30 (by decide)) (fun c_30 => ?_)
  refine lv_iload_n hx hb dX12_feed_42 rfl (lv_at hl 4 rfl) ?_
  refine lv_goto (tgt := 71) hx hb dX12_feed_43 (by decide) ?_
  refine lv_istore (lv' := [(7, .int p1), (6, .int 5), (0, .ref h0), (1, .int p0), (2, .int p1), (3, .int p2), (4, .int p3), (5, .int p4)]) hx hb dX12_feed_71 hl (by decide) rfl (fun ls hl => ?_)
  refine lv_aload_n hx hb dX12_feed_73 rfl (lv_at hl 2 rfl) ?_
  refine va_get (D := (dC, dI)) (ci := 12) (v := .ref h1) (C := RX12) (T := TX12) (N := 80) hx hb hts hiX12 hown hK hP 0 rfl rfl 0 (by decide) (hts (.fieldLink RX12 7 "CakePapersModel" "tape" "[B") (by decide +kernel)) (fun _ h9 => h9) e_fs_0 dX12_feed_74 ?_
  refine lv_aload_n hx hb dX12_feed_77 rfl (lv_at hl 2 rfl) ?_
  refine va_get (D := (dC, dI)) (ci := 12) (v := .int 0) (C := RX12) (T := TX12) (N := 80) hx hb hts hiX12 hown hK hP 0 rfl rfl 2 (by decide) (hts (.fieldLink RX12 247 "CakePapersModel" "taped" "I") (by decide +kernel)) (fun _ h9 => h9) e_fs_2 dX12_feed_78 ?_
  refine lv_iload hx hb dX12_feed_81 (lv_at hl 1 rfl) ?_
  refine lv_iadd hx hb dX12_feed_83 ?_
  refine zz_ci (y := 5) (by decide) ?_
  refine lv_iload hx hb dX12_feed_84 (lv_at hl 0 rfl) ?_
  refine lv_bipush (v := 24) hx hb dX12_feed_86 (by decide) ?_
  refine lv_bipush (v := 8) hx hb dX12_feed_88 (by decide) ?_
  refine lv_iload hx hb dX12_feed_90 (lv_at hl 1 rfl) ?_
  refine lv_iconst (v := 3) hx hb dX12_feed_92 (by decide) ?_
  refine lv_iand hx hb dX12_feed_93 ?_
  refine zz_ci (y := 1) (by decide) ?_
  refine lv_imul hx hb dX12_feed_94 ?_
  refine zz_ci (y := 8) (by decide) ?_
  refine lv_isub hx hb dX12_feed_95 ?_
  refine zz_ci (y := 16) (by decide) ?_
  refine lv_ishr hx hb dX12_feed_96 ?_
  refine lv_topi (fun v_31 _ => ?_)
  refine lv_i2b hx hb dX12_feed_97 rfl ?_
  refine lv_topi (fun v_32 _ => ?_)
  refine va_bast hx hb hK hP hD hS 1 0 rfl rfl (zz_in (by decide)) dX12_feed_98 (fun H locs hP hD hS => ?_)
  obtain ⟨f_33, hP, hD⟩ : ∃ f_33 : Nat → Int32, va_P (dC, dI) vwCl [(h0, .inr (12, fs)), (h1, .inl (cY, 1220, .inl f_33))] H ∧ va_D A [(h0, .inr (12, fs)), (h1, .inl (cY, 1220, .inl f_33))] := ⟨_, hP, hD⟩
  refine lv_iinc (v := 6) (lv' := [(6, .int 6), (7, .int p1), (0, .ref h0), (1, .int p0), (2, .int p1), (3, .int p2), (4, .int p3), (5, .int p4)]) hx hb dX12_feed_99 hl (k := 1) rfl (by decide) (by decide) rfl (fun ls hl => ?_)
  refine lv_goto (tgt := 18) hx hb dX12_feed_102 (by decide) ?_
  refine lv_iload hx hb dX12_feed_18 (lv_at hl 0 rfl) ?_
  refine lv_bipush (v := 20) hx hb dX12_feed_20 (by decide) ?_
  refine lv_icmp_ge (tgt := 105) hx hb dX12_feed_22 (by decide) (fun c_34 => absurd c_34 (by decide)) (fun c_34 => ?_)
  refine lv_iload hx hb dX12_feed_25 (lv_at hl 0 rfl) ?_
  refine lv_iconst (v := 4) hx hb dX12_feed_27 (by decide) ?_
  refine lv_icmp_ge (tgt := 35) hx hb dX12_feed_28 (by decide) (fun c_35 => ?_) (fun c_35 => absurd c_35 (by decide))
  refine lv_iload hx hb dX12_feed_35 (lv_at hl 0 rfl) ?_
  refine lv_bipush (v := 8) hx hb dX12_feed_37 (by decide) ?_
  refine lv_icmp_ge (tgt := 46) hx hb dX12_feed_39 (by decide) (fun c_36 => absurd c_36 (by decide)) (fun c_36 => ?_)
  refine lv_iload_n hx hb dX12_feed_42 rfl (lv_at hl 4 rfl) ?_
  refine lv_goto (tgt := 71) hx hb dX12_feed_43 (by decide) ?_
  refine lv_istore (lv' := [(7, .int p1), (6, .int 6), (0, .ref h0), (1, .int p0), (2, .int p1), (3, .int p2), (4, .int p3), (5, .int p4)]) hx hb dX12_feed_71 hl (by decide) rfl (fun ls hl => ?_)
  refine lv_aload_n hx hb dX12_feed_73 rfl (lv_at hl 2 rfl) ?_
  refine va_get (D := (dC, dI)) (ci := 12) (v := .ref h1) (C := RX12) (T := TX12) (N := 80) hx hb hts hiX12 hown hK hP 0 rfl rfl 0 (by decide) (hts (.fieldLink RX12 7 "CakePapersModel" "tape" "[B") (by decide +kernel)) (fun _ h9 => h9) e_fs_0 dX12_feed_74 ?_
  refine lv_aload_n hx hb dX12_feed_77 rfl (lv_at hl 2 rfl) ?_
  refine va_get (D := (dC, dI)) (ci := 12) (v := .int 0) (C := RX12) (T := TX12) (N := 80) hx hb hts hiX12 hown hK hP 0 rfl rfl 2 (by decide) (hts (.fieldLink RX12 247 "CakePapersModel" "taped" "I") (by decide +kernel)) (fun _ h9 => h9) e_fs_2 dX12_feed_78 ?_
  refine lv_iload hx hb dX12_feed_81 (lv_at hl 1 rfl) ?_
  refine lv_iadd hx hb dX12_feed_83 ?_
  refine zz_ci (y := 6) (by decide) ?_
  refine lv_iload hx hb dX12_feed_84 (lv_at hl 0 rfl) ?_
  refine lv_bipush (v := 24) hx hb dX12_feed_86 (by decide) ?_
  refine lv_bipush (v := 8) hx hb dX12_feed_88 (by decide) ?_
  refine lv_iload hx hb dX12_feed_90 (lv_at hl 1 rfl) ?_
  refine lv_iconst (v := 3) hx hb dX12_feed_92 (by decide) ?_
  refine lv_iand hx hb dX12_feed_93 ?_
  refine zz_ci (y := 2) (by decide) ?_
  refine lv_imul hx hb dX12_feed_94 ?_
  refine zz_ci (y := 16) (by decide) ?_
  refine lv_isub hx hb dX12_feed_95 ?_
  refine zz_ci (y := 8) (by decide) ?_
  refine lv_ishr hx hb dX12_feed_96 ?_
  refine lv_topi (fun v_37 _ => ?_)
  refine lv_i2b hx hb dX12_feed_97 rfl ?_
  refine lv_topi (fun v_38 _ => ?_)
  refine va_bast hx hb hK hP hD hS 1 0 rfl rfl (zz_in (by decide)) dX12_feed_98 (fun H locs hP hD hS => ?_)
  obtain ⟨f_39, hP, hD⟩ : ∃ f_39 : Nat → Int32, va_P (dC, dI) vwCl [(h0, .inr (12, fs)), (h1, .inl (cY, 1220, .inl f_39))] H ∧ va_D A [(h0, .inr (12, fs)), (h1, .inl (cY, 1220, .inl f_39))] := ⟨_, hP, hD⟩
  refine lv_iinc (v := 7) (lv' := [(6, .int 7), (7, .int p1), (0, .ref h0), (1, .int p0), (2, .int p1), (3, .int p2), (4, .int p3), (5, .int p4)]) hx hb dX12_feed_99 hl (k := 1) rfl (by decide) (by decide) rfl (fun ls hl => ?_)
  refine lv_goto (tgt := 18) hx hb dX12_feed_102 (by decide) ?_
  refine lv_iload hx hb dX12_feed_18 (lv_at hl 0 rfl) ?_
  refine lv_bipush (v := 20) hx hb dX12_feed_20 (by decide) ?_
  refine lv_icmp_ge (tgt := 105) hx hb dX12_feed_22 (by decide) (fun c_40 => absurd c_40 (by decide)) (fun c_40 => ?_)
  refine lv_iload hx hb dX12_feed_25 (lv_at hl 0 rfl) ?_
  refine lv_iconst (v := 4) hx hb dX12_feed_27 (by decide) ?_
  refine lv_icmp_ge (tgt := 35) hx hb dX12_feed_28 (by decide) (fun c_41 => ?_) (fun c_41 => absurd c_41 (by decide))
  refine lv_iload hx hb dX12_feed_35 (lv_at hl 0 rfl) ?_
  refine lv_bipush (v := 8) hx hb dX12_feed_37 (by decide) ?_
  refine lv_icmp_ge (tgt := 46) hx hb dX12_feed_39 (by decide) (fun c_42 => absurd c_42 (by decide)) (fun c_42 => ?_)
  refine lv_iload_n hx hb dX12_feed_42 rfl (lv_at hl 4 rfl) ?_
  refine lv_goto (tgt := 71) hx hb dX12_feed_43 (by decide) ?_
  refine lv_istore (lv' := [(7, .int p1), (6, .int 7), (0, .ref h0), (1, .int p0), (2, .int p1), (3, .int p2), (4, .int p3), (5, .int p4)]) hx hb dX12_feed_71 hl (by decide) rfl (fun ls hl => ?_)
  refine lv_aload_n hx hb dX12_feed_73 rfl (lv_at hl 2 rfl) ?_
  refine va_get (D := (dC, dI)) (ci := 12) (v := .ref h1) (C := RX12) (T := TX12) (N := 80) hx hb hts hiX12 hown hK hP 0 rfl rfl 0 (by decide) (hts (.fieldLink RX12 7 "CakePapersModel" "tape" "[B") (by decide +kernel)) (fun _ h9 => h9) e_fs_0 dX12_feed_74 ?_
  refine lv_aload_n hx hb dX12_feed_77 rfl (lv_at hl 2 rfl) ?_
  refine va_get (D := (dC, dI)) (ci := 12) (v := .int 0) (C := RX12) (T := TX12) (N := 80) hx hb hts hiX12 hown hK hP 0 rfl rfl 2 (by decide) (hts (.fieldLink RX12 247 "CakePapersModel" "taped" "I") (by decide +kernel)) (fun _ h9 => h9) e_fs_2 dX12_feed_78 ?_
  refine lv_iload hx hb dX12_feed_81 (lv_at hl 1 rfl) ?_
  refine lv_iadd hx hb dX12_feed_83 ?_
  refine zz_ci (y := 7) (by decide) ?_
  refine lv_iload hx hb dX12_feed_84 (lv_at hl 0 rfl) ?_
  refine lv_bipush (v := 24) hx hb dX12_feed_86 (by decide) ?_
  refine lv_bipush (v := 8) hx hb dX12_feed_88 (by decide) ?_
  refine lv_iload hx hb dX12_feed_90 (lv_at hl 1 rfl) ?_
  refine lv_iconst (v := 3) hx hb dX12_feed_92 (by decide) ?_
  refine lv_iand hx hb dX12_feed_93 ?_
  refine zz_ci (y := 3) (by decide) ?_
  refine lv_imul hx hb dX12_feed_94 ?_
  refine zz_ci (y := 24) (by decide) ?_
  refine lv_isub hx hb dX12_feed_95 ?_
  refine zz_ci (y := 0) (by decide) ?_
  refine lv_ishr hx hb dX12_feed_96 ?_
  refine lv_topi (fun v_43 _ => ?_)
  refine lv_i2b hx hb dX12_feed_97 rfl ?_
  refine lv_topi (fun v_44 _ => ?_)
  refine va_bast hx hb hK hP hD hS 1 0 rfl rfl (zz_in (by decide)) dX12_feed_98 (fun H locs hP hD hS => ?_)
  obtain ⟨f_45, hP, hD⟩ : ∃ f_45 : Nat → Int32, va_P (dC, dI) vwCl [(h0, .inr (12, fs)), (h1, .inl (cY, 1220, .inl f_45))] H ∧ va_D A [(h0, .inr (12, fs)), (h1, .inl (cY, 1220, .inl f_45))] := ⟨_, hP, hD⟩
  refine lv_iinc (v := 8) (lv' := [(6, .int 8), (7, .int p1), (0, .ref h0), (1, .int p0), (2, .int p1), (3, .int p2), (4, .int p3), (5, .int p4)]) hx hb dX12_feed_99 hl (k := 1) rfl (by decide) (by decide) rfl (fun ls hl => ?_)
  refine lv_goto (tgt := 18) hx hb dX12_feed_102 (by decide) ?_
  refine lv_iload hx hb dX12_feed_18 (lv_at hl 0 rfl) ?_
  refine lv_bipush (v := 20) hx hb dX12_feed_20 (by decide) ?_
  refine lv_icmp_ge (tgt := 105) hx hb dX12_feed_22 (by decide) (fun c_46 => absurd c_46 (by decide)) (fun c_46 => ?_)
  refine lv_iload hx hb dX12_feed_25 (lv_at hl 0 rfl) ?_
  refine lv_iconst (v := 4) hx hb dX12_feed_27 (by decide) ?_
  refine lv_icmp_ge (tgt := 35) hx hb dX12_feed_28 (by decide) (fun c_47 => ?_) (fun c_47 => absurd c_47 (by decide))
  refine lv_iload hx hb dX12_feed_35 (lv_at hl 0 rfl) ?_
  refine lv_bipush (v := 8) hx hb dX12_feed_37 (by decide) ?_
  refine lv_icmp_ge (tgt := 46) hx hb dX12_feed_39 (by decide) (fun c_48 => ?_) (fun c_48 => absurd c_48 (by decide))
  refine lv_iload hx hb dX12_feed_46 (lv_at hl 0 rfl) ?_
  refine lv_bipush (v := 12) hx hb dX12_feed_48 (by decide) ?_
  refine lv_icmp_ge (tgt := 57) hx hb dX12_feed_50 (by decide) (fun c_49 => absurd c_49 (by decide)) (fun c_49 => ?_)
  refine lv_iload_n hx hb dX12_feed_53 rfl (lv_at hl 5 rfl) ?_
  refine lv_goto (tgt := 71) hx hb dX12_feed_54 (by decide) ?_
  refine lv_istore (lv' := [(7, .int p2), (6, .int 8), (0, .ref h0), (1, .int p0), (2, .int p1), (3, .int p2), (4, .int p3), (5, .int p4)]) hx hb dX12_feed_71 hl (by decide) rfl (fun ls hl => ?_)
  refine lv_aload_n hx hb dX12_feed_73 rfl (lv_at hl 2 rfl) ?_
  refine va_get (D := (dC, dI)) (ci := 12) (v := .ref h1) (C := RX12) (T := TX12) (N := 80) hx hb hts hiX12 hown hK hP 0 rfl rfl 0 (by decide) (hts (.fieldLink RX12 7 "CakePapersModel" "tape" "[B") (by decide +kernel)) (fun _ h9 => h9) e_fs_0 dX12_feed_74 ?_
  refine lv_aload_n hx hb dX12_feed_77 rfl (lv_at hl 2 rfl) ?_
  refine va_get (D := (dC, dI)) (ci := 12) (v := .int 0) (C := RX12) (T := TX12) (N := 80) hx hb hts hiX12 hown hK hP 0 rfl rfl 2 (by decide) (hts (.fieldLink RX12 247 "CakePapersModel" "taped" "I") (by decide +kernel)) (fun _ h9 => h9) e_fs_2 dX12_feed_78 ?_
  refine lv_iload hx hb dX12_feed_81 (lv_at hl 1 rfl) ?_
  refine lv_iadd hx hb dX12_feed_83 ?_
  refine zz_ci (y := 8) (by decide) ?_
  refine lv_iload hx hb dX12_feed_84 (lv_at hl 0 rfl) ?_
  refine lv_bipush (v := 24) hx hb dX12_feed_86 (by decide) ?_
  refine lv_bipush (v := 8) hx hb dX12_feed_88 (by decide) ?_
  refine lv_iload hx hb dX12_feed_90 (lv_at hl 1 rfl) ?_
  refine lv_iconst (v := 3) hx hb dX12_feed_92 (by decide) ?_
  refine lv_iand hx hb dX12_feed_93 ?_
  refine zz_ci (y := 0) (by decide) ?_
  refine lv_imul hx hb dX12_feed_94 ?_
  refine zz_ci (y := 0) (by decide) ?_
  refine lv_isub hx hb dX12_feed_95 ?_
  refine zz_ci (y := 24) (by decide) ?_
  refine lv_ishr hx hb dX12_feed_96 ?_
  refine lv_topi (fun v_50 _ => ?_)
  refine lv_i2b hx hb dX12_feed_97 rfl ?_
  refine lv_topi (fun v_51 _ => ?_)
  refine va_bast hx hb hK hP hD hS 1 0 rfl rfl (zz_in (by decide)) dX12_feed_98 (fun H locs hP hD hS => ?_)
  obtain ⟨f_52, hP, hD⟩ : ∃ f_52 : Nat → Int32, va_P (dC, dI) vwCl [(h0, .inr (12, fs)), (h1, .inl (cY, 1220, .inl f_52))] H ∧ va_D A [(h0, .inr (12, fs)), (h1, .inl (cY, 1220, .inl f_52))] := ⟨_, hP, hD⟩
  refine lv_iinc (v := 9) (lv' := [(6, .int 9), (7, .int p2), (0, .ref h0), (1, .int p0), (2, .int p1), (3, .int p2), (4, .int p3), (5, .int p4)]) hx hb dX12_feed_99 hl (k := 1) rfl (by decide) (by decide) rfl (fun ls hl => ?_)
  refine lv_goto (tgt := 18) hx hb dX12_feed_102 (by decide) ?_
  refine lv_iload hx hb dX12_feed_18 (lv_at hl 0 rfl) ?_
  refine lv_bipush (v := 20) hx hb dX12_feed_20 (by decide) ?_
  refine lv_icmp_ge (tgt := 105) hx hb dX12_feed_22 (by decide) (fun c_53 => absurd c_53 (by decide)) (fun c_53 => ?_)
  refine lv_iload hx hb dX12_feed_25 (lv_at hl 0 rfl) ?_
  refine lv_iconst (v := 4) hx hb dX12_feed_27 (by decide) ?_
  refine lv_icmp_ge (tgt := 35) hx hb dX12_feed_28 (by decide) (fun c_54 => ?_) (fun c_54 => absurd c_54 (by decide))
  refine lv_iload hx hb dX12_feed_35 (lv_at hl 0 rfl) ?_
  refine lv_bipush (v := 8) hx hb dX12_feed_37 (by decide) ?_
  refine lv_icmp_ge (tgt := 46) hx hb dX12_feed_39 (by decide) (fun c_55 => ?_) (fun c_55 => absurd c_55 (by decide))
  refine lv_iload hx hb dX12_feed_46 (lv_at hl 0 rfl) ?_
  refine lv_bipush (v := 12) hx hb dX12_feed_48 (by decide) ?_
  refine lv_icmp_ge (tgt := 57) hx hb dX12_feed_50 (by decide) (fun c_56 => absurd c_56 (by decide)) (fun c_56 => ?_)
  refine lv_iload_n hx hb dX12_feed_53 rfl (lv_at hl 5 rfl) ?_
  refine lv_goto (tgt := 71) hx hb dX12_feed_54 (by decide) ?_
  refine lv_istore (lv' := [(7, .int p2), (6, .int 9), (0, .ref h0), (1, .int p0), (2, .int p1), (3, .int p2), (4, .int p3), (5, .int p4)]) hx hb dX12_feed_71 hl (by decide) rfl (fun ls hl => ?_)
  refine lv_aload_n hx hb dX12_feed_73 rfl (lv_at hl 2 rfl) ?_
  refine va_get (D := (dC, dI)) (ci := 12) (v := .ref h1) (C := RX12) (T := TX12) (N := 80) hx hb hts hiX12 hown hK hP 0 rfl rfl 0 (by decide) (hts (.fieldLink RX12 7 "CakePapersModel" "tape" "[B") (by decide +kernel)) (fun _ h9 => h9) e_fs_0 dX12_feed_74 ?_
  refine lv_aload_n hx hb dX12_feed_77 rfl (lv_at hl 2 rfl) ?_
  refine va_get (D := (dC, dI)) (ci := 12) (v := .int 0) (C := RX12) (T := TX12) (N := 80) hx hb hts hiX12 hown hK hP 0 rfl rfl 2 (by decide) (hts (.fieldLink RX12 247 "CakePapersModel" "taped" "I") (by decide +kernel)) (fun _ h9 => h9) e_fs_2 dX12_feed_78 ?_
  refine lv_iload hx hb dX12_feed_81 (lv_at hl 1 rfl) ?_
  refine lv_iadd hx hb dX12_feed_83 ?_
  refine zz_ci (y := 9) (by decide) ?_
  refine lv_iload hx hb dX12_feed_84 (lv_at hl 0 rfl) ?_
  refine lv_bipush (v := 24) hx hb dX12_feed_86 (by decide) ?_
  refine lv_bipush (v := 8) hx hb dX12_feed_88 (by decide) ?_
  refine lv_iload hx hb dX12_feed_90 (lv_at hl 1 rfl) ?_
  refine lv_iconst (v := 3) hx hb dX12_feed_92 (by decide) ?_
  refine lv_iand hx hb dX12_feed_93 ?_
  refine zz_ci (y := 1) (by decide) ?_
  refine lv_imul hx hb dX12_feed_94 ?_
  refine zz_ci (y := 8) (by decide) ?_
  refine lv_isub hx hb dX12_feed_95 ?_
  refine zz_ci (y := 16) (by decide) ?_
  refine lv_ishr hx hb dX12_feed_96 ?_
  refine lv_topi (fun v_57 _ => ?_)
  refine lv_i2b hx hb dX12_feed_97 rfl ?_
  refine lv_topi (fun v_58 _ => ?_)
  refine va_bast hx hb hK hP hD hS 1 0 rfl rfl (zz_in (by decide)) dX12_feed_98 (fun H locs hP hD hS => ?_)
  obtain ⟨f_59, hP, hD⟩ : ∃ f_59 : Nat → Int32, va_P (dC, dI) vwCl [(h0, .inr (12, fs)), (h1, .inl (cY, 1220, .inl f_59))] H ∧ va_D A [(h0, .inr (12, fs)), (h1, .inl (cY, 1220, .inl f_59))] := ⟨_, hP, hD⟩
  refine lv_iinc (v := 10) (lv' := [(6, .int 10), (7, .int p2), (0, .ref h0), (1, .int p0), (2, .int p1), (3, .int p2), (4, .int p3), (5, .int p4)]) hx hb dX12_feed_99 hl (k := 1) rfl (by decide) (by decide) rfl (fun ls hl => ?_)
  refine lv_goto (tgt := 18) hx hb dX12_feed_102 (by decide) ?_
  refine lv_iload hx hb dX12_feed_18 (lv_at hl 0 rfl) ?_
  refine lv_bipush (v := 20) hx hb dX12_feed_20 (by decide) ?_
  refine lv_icmp_ge (tgt := 105) hx hb dX12_feed_22 (by decide) (fun c_60 => absurd c_60 (by decide)) (fun c_60 => ?_)
  refine lv_iload hx hb dX12_feed_25 (lv_at hl 0 rfl) ?_
  refine lv_iconst (v := 4) hx hb dX12_feed_27 (by decide) ?_
  refine lv_icmp_ge (tgt := 35) hx hb dX12_feed_28 (by decide) (fun c_61 => ?_) (fun c_61 => absurd c_61 (by decide))
  refine lv_iload hx hb dX12_feed_35 (lv_at hl 0 rfl) ?_
  refine lv_bipush (v := 8) hx hb dX12_feed_37 (by decide) ?_
  refine lv_icmp_ge (tgt := 46) hx hb dX12_feed_39 (by decide) (fun c_62 => ?_) (fun c_62 => absurd c_62 (by decide))
  refine lv_iload hx hb dX12_feed_46 (lv_at hl 0 rfl) ?_
  refine lv_bipush (v := 12) hx hb dX12_feed_48 (by decide) ?_
  refine lv_icmp_ge (tgt := 57) hx hb dX12_feed_50 (by decide) (fun c_63 => absurd c_63 (by decide)) (fun c_63 => ?_)
  refine lv_iload_n hx hb dX12_feed_53 rfl (lv_at hl 5 rfl) ?_
  refine lv_goto (tgt := 71) hx hb dX12_feed_54 (by decide) ?_
  refine lv_istore (lv' := [(7, .int p2), (6, .int 10), (0, .ref h0), (1, .int p0), (2, .int p1), (3, .int p2), (4, .int p3), (5, .int p4)]) hx hb dX12_feed_71 hl (by decide) rfl (fun ls hl => ?_)
  refine lv_aload_n hx hb dX12_feed_73 rfl (lv_at hl 2 rfl) ?_
  refine va_get (D := (dC, dI)) (ci := 12) (v := .ref h1) (C := RX12) (T := TX12) (N := 80) hx hb hts hiX12 hown hK hP 0 rfl rfl 0 (by decide) (hts (.fieldLink RX12 7 "CakePapersModel" "tape" "[B") (by decide +kernel)) (fun _ h9 => h9) e_fs_0 dX12_feed_74 ?_
  refine lv_aload_n hx hb dX12_feed_77 rfl (lv_at hl 2 rfl) ?_
  refine va_get (D := (dC, dI)) (ci := 12) (v := .int 0) (C := RX12) (T := TX12) (N := 80) hx hb hts hiX12 hown hK hP 0 rfl rfl 2 (by decide) (hts (.fieldLink RX12 247 "CakePapersModel" "taped" "I") (by decide +kernel)) (fun _ h9 => h9) e_fs_2 dX12_feed_78 ?_
  refine lv_iload hx hb dX12_feed_81 (lv_at hl 1 rfl) ?_
  refine lv_iadd hx hb dX12_feed_83 ?_
  refine zz_ci (y := 10) (by decide) ?_
  refine lv_iload hx hb dX12_feed_84 (lv_at hl 0 rfl) ?_
  refine lv_bipush (v := 24) hx hb dX12_feed_86 (by decide) ?_
  refine lv_bipush (v := 8) hx hb dX12_feed_88 (by decide) ?_
  refine lv_iload hx hb dX12_feed_90 (lv_at hl 1 rfl) ?_
  refine lv_iconst (v := 3) hx hb dX12_feed_92 (by decide) ?_
  refine lv_iand hx hb dX12_feed_93 ?_
  refine zz_ci (y := 2) (by decide) ?_
  refine lv_imul hx hb dX12_feed_94 ?_
  refine zz_ci (y := 16) (by decide) ?_
  refine lv_isub hx hb dX12_feed_95 ?_
  refine zz_ci (y := 8) (by decide) ?_
  refine lv_ishr hx hb dX12_feed_96 ?_
  refine lv_topi (fun v_64 _ => ?_)
  refine lv_i2b hx hb dX12_feed_97 rfl ?_
  refine lv_topi (fun v_65 _ => ?_)
  refine va_bast hx hb hK hP hD hS 1 0 rfl rfl (zz_in (by decide)) dX12_feed_98 (fun H locs hP hD hS => ?_)
  obtain ⟨f_66, hP, hD⟩ : ∃ f_66 : Nat → Int32, va_P (dC, dI) vwCl [(h0, .inr (12, fs)), (h1, .inl (cY, 1220, .inl f_66))] H ∧ va_D A [(h0, .inr (12, fs)), (h1, .inl (cY, 1220, .inl f_66))] := ⟨_, hP, hD⟩
  refine lv_iinc (v := 11) (lv' := [(6, .int 11), (7, .int p2), (0, .ref h0), (1, .int p0), (2, .int p1), (3, .int p2), (4, .int p3), (5, .int p4)]) hx hb dX12_feed_99 hl (k := 1) rfl (by decide) (by decide) rfl (fun ls hl => ?_)
  refine lv_goto (tgt := 18) hx hb dX12_feed_102 (by decide) ?_
  refine lv_iload hx hb dX12_feed_18 (lv_at hl 0 rfl) ?_
  refine lv_bipush (v := 20) hx hb dX12_feed_20 (by decide) ?_
  refine lv_icmp_ge (tgt := 105) hx hb dX12_feed_22 (by decide) (fun c_67 => absurd c_67 (by decide)) (fun c_67 => ?_)
  refine lv_iload hx hb dX12_feed_25 (lv_at hl 0 rfl) ?_
  refine lv_iconst (v := 4) hx hb dX12_feed_27 (by decide) ?_
  refine lv_icmp_ge (tgt := 35) hx hb dX12_feed_28 (by decide) (fun c_68 => ?_) (fun c_68 => absurd c_68 (by decide))
  refine lv_iload hx hb dX12_feed_35 (lv_at hl 0 rfl) ?_
  refine lv_bipush (v := 8) hx hb dX12_feed_37 (by decide) ?_
  refine lv_icmp_ge (tgt := 46) hx hb dX12_feed_39 (by decide) (fun c_69 => ?_) (fun c_69 => absurd c_69 (by decide))
  refine lv_iload hx hb dX12_feed_46 (lv_at hl 0 rfl) ?_
  refine lv_bipush (v := 12) hx hb dX12_feed_48 (by decide) ?_
  refine lv_icmp_ge (tgt := 57) hx hb dX12_feed_50 (by decide) (fun c_70 => absurd c_70 (by decide)) (fun c_70 => ?_)
  refine lv_iload_n hx hb dX12_feed_53 rfl (lv_at hl 5 rfl) ?_
  refine lv_goto (tgt := 71) hx hb dX12_feed_54 (by decide) ?_
  refine lv_istore (lv' := [(7, .int p2), (6, .int 11), (0, .ref h0), (1, .int p0), (2, .int p1), (3, .int p2), (4, .int p3), (5, .int p4)]) hx hb dX12_feed_71 hl (by decide) rfl (fun ls hl => ?_)
  refine lv_aload_n hx hb dX12_feed_73 rfl (lv_at hl 2 rfl) ?_
  refine va_get (D := (dC, dI)) (ci := 12) (v := .ref h1) (C := RX12) (T := TX12) (N := 80) hx hb hts hiX12 hown hK hP 0 rfl rfl 0 (by decide) (hts (.fieldLink RX12 7 "CakePapersModel" "tape" "[B") (by decide +kernel)) (fun _ h9 => h9) e_fs_0 dX12_feed_74 ?_
  refine lv_aload_n hx hb dX12_feed_77 rfl (lv_at hl 2 rfl) ?_
  refine va_get (D := (dC, dI)) (ci := 12) (v := .int 0) (C := RX12) (T := TX12) (N := 80) hx hb hts hiX12 hown hK hP 0 rfl rfl 2 (by decide) (hts (.fieldLink RX12 247 "CakePapersModel" "taped" "I") (by decide +kernel)) (fun _ h9 => h9) e_fs_2 dX12_feed_78 ?_
  refine lv_iload hx hb dX12_feed_81 (lv_at hl 1 rfl) ?_
  refine lv_iadd hx hb dX12_feed_83 ?_
  refine zz_ci (y := 11) (by decide) ?_
  refine lv_iload hx hb dX12_feed_84 (lv_at hl 0 rfl) ?_
  refine lv_bipush (v := 24) hx hb dX12_feed_86 (by decide) ?_
  refine lv_bipush (v := 8) hx hb dX12_feed_88 (by decide) ?_
  refine lv_iload hx hb dX12_feed_90 (lv_at hl 1 rfl) ?_
  refine lv_iconst (v := 3) hx hb dX12_feed_92 (by decide) ?_
  refine lv_iand hx hb dX12_feed_93 ?_
  refine zz_ci (y := 3) (by decide) ?_
  refine lv_imul hx hb dX12_feed_94 ?_
  refine zz_ci (y := 24) (by decide) ?_
  refine lv_isub hx hb dX12_feed_95 ?_
  refine zz_ci (y := 0) (by decide) ?_
  refine lv_ishr hx hb dX12_feed_96 ?_
  refine lv_topi (fun v_71 _ => ?_)
  refine lv_i2b hx hb dX12_feed_97 rfl ?_
  refine lv_topi (fun v_72 _ => ?_)
  refine va_bast hx hb hK hP hD hS 1 0 rfl rfl (zz_in (by decide)) dX12_feed_98 (fun H locs hP hD hS => ?_)
  obtain ⟨f_73, hP, hD⟩ : ∃ f_73 : Nat → Int32, va_P (dC, dI) vwCl [(h0, .inr (12, fs)), (h1, .inl (cY, 1220, .inl f_73))] H ∧ va_D A [(h0, .inr (12, fs)), (h1, .inl (cY, 1220, .inl f_73))] := ⟨_, hP, hD⟩
  refine lv_iinc (v := 12) (lv' := [(6, .int 12), (7, .int p2), (0, .ref h0), (1, .int p0), (2, .int p1), (3, .int p2), (4, .int p3), (5, .int p4)]) hx hb dX12_feed_99 hl (k := 1) rfl (by decide) (by decide) rfl (fun ls hl => ?_)
  refine lv_goto (tgt := 18) hx hb dX12_feed_102 (by decide) ?_
  refine lv_iload hx hb dX12_feed_18 (lv_at hl 0 rfl) ?_
  refine lv_bipush (v := 20) hx hb dX12_feed_20 (by decide) ?_
  refine lv_icmp_ge (tgt := 105) hx hb dX12_feed_22 (by decide) (fun c_74 => absurd c_74 (by decide)) (fun c_74 => ?_)
  refine lv_iload hx hb dX12_feed_25 (lv_at hl 0 rfl) ?_
  refine lv_iconst (v := 4) hx hb dX12_feed_27 (by decide) ?_
  refine lv_icmp_ge (tgt := 35) hx hb dX12_feed_28 (by decide) (fun c_75 => ?_) (fun c_75 => absurd c_75 (by decide))
  refine lv_iload hx hb dX12_feed_35 (lv_at hl 0 rfl) ?_
  refine lv_bipush (v := 8) hx hb dX12_feed_37 (by decide) ?_
  refine lv_icmp_ge (tgt := 46) hx hb dX12_feed_39 (by decide) (fun c_76 => ?_) (fun c_76 => absurd c_76 (by decide))
  refine lv_iload hx hb dX12_feed_46 (lv_at hl 0 rfl) ?_
  refine lv_bipush (v := 12) hx hb dX12_feed_48 (by decide) ?_
  refine lv_icmp_ge (tgt := 57) hx hb dX12_feed_50 (by decide) (fun c_77 => ?_) (fun c_77 => absurd c_77 (by decide))
  refine lv_iload hx hb dX12_feed_57 (lv_at hl 0 rfl) ?_
  refine lv_bipush (v := 16) hx hb dX12_feed_59 (by decide) ?_
  refine lv_icmp_ge (tgt := 69) hx hb dX12_feed_61 (by decide) (fun c_78 => absurd c_78 (by decide)) (fun c_78 => ?_)
  refine lv_iload hx hb dX12_feed_64 (lv_at hl 6 rfl) ?_
  refine lv_goto (tgt := 71) hx hb dX12_feed_66 (by decide) ?_
  refine lv_istore (lv' := [(7, .int p3), (6, .int 12), (0, .ref h0), (1, .int p0), (2, .int p1), (3, .int p2), (4, .int p3), (5, .int p4)]) hx hb dX12_feed_71 hl (by decide) rfl (fun ls hl => ?_)
  refine lv_aload_n hx hb dX12_feed_73 rfl (lv_at hl 2 rfl) ?_
  refine va_get (D := (dC, dI)) (ci := 12) (v := .ref h1) (C := RX12) (T := TX12) (N := 80) hx hb hts hiX12 hown hK hP 0 rfl rfl 0 (by decide) (hts (.fieldLink RX12 7 "CakePapersModel" "tape" "[B") (by decide +kernel)) (fun _ h9 => h9) e_fs_0 dX12_feed_74 ?_
  refine lv_aload_n hx hb dX12_feed_77 rfl (lv_at hl 2 rfl) ?_
  refine va_get (D := (dC, dI)) (ci := 12) (v := .int 0) (C := RX12) (T := TX12) (N := 80) hx hb hts hiX12 hown hK hP 0 rfl rfl 2 (by decide) (hts (.fieldLink RX12 247 "CakePapersModel" "taped" "I") (by decide +kernel)) (fun _ h9 => h9) e_fs_2 dX12_feed_78 ?_
  refine lv_iload hx hb dX12_feed_81 (lv_at hl 1 rfl) ?_
  refine lv_iadd hx hb dX12_feed_83 ?_
  refine zz_ci (y := 12) (by decide) ?_
  refine lv_iload hx hb dX12_feed_84 (lv_at hl 0 rfl) ?_
  refine lv_bipush (v := 24) hx hb dX12_feed_86 (by decide) ?_
  refine lv_bipush (v := 8) hx hb dX12_feed_88 (by decide) ?_
  refine lv_iload hx hb dX12_feed_90 (lv_at hl 1 rfl) ?_
  refine lv_iconst (v := 3) hx hb dX12_feed_92 (by decide) ?_
  refine lv_iand hx hb dX12_feed_93 ?_
  refine zz_ci (y := 0) (by decide) ?_
  refine lv_imul hx hb dX12_feed_94 ?_
  refine zz_ci (y := 0) (by decide) ?_
  refine lv_isub hx hb dX12_feed_95 ?_
  refine zz_ci (y := 24) (by decide) ?_
  refine lv_ishr hx hb dX12_feed_96 ?_
  refine lv_topi (fun v_79 _ => ?_)
  refine lv_i2b hx hb dX12_feed_97 rfl ?_
  refine lv_topi (fun v_80 _ => ?_)
  refine va_bast hx hb hK hP hD hS 1 0 rfl rfl (zz_in (by decide)) dX12_feed_98 (fun H locs hP hD hS => ?_)
  obtain ⟨f_81, hP, hD⟩ : ∃ f_81 : Nat → Int32, va_P (dC, dI) vwCl [(h0, .inr (12, fs)), (h1, .inl (cY, 1220, .inl f_81))] H ∧ va_D A [(h0, .inr (12, fs)), (h1, .inl (cY, 1220, .inl f_81))] := ⟨_, hP, hD⟩
  refine lv_iinc (v := 13) (lv' := [(6, .int 13), (7, .int p3), (0, .ref h0), (1, .int p0), (2, .int p1), (3, .int p2), (4, .int p3), (5, .int p4)]) hx hb dX12_feed_99 hl (k := 1) rfl (by decide) (by decide) rfl (fun ls hl => ?_)
  refine lv_goto (tgt := 18) hx hb dX12_feed_102 (by decide) ?_
  refine lv_iload hx hb dX12_feed_18 (lv_at hl 0 rfl) ?_
  refine lv_bipush (v := 20) hx hb dX12_feed_20 (by decide) ?_
  refine lv_icmp_ge (tgt := 105) hx hb dX12_feed_22 (by decide) (fun c_82 => absurd c_82 (by decide)) (fun c_82 => ?_)
  refine lv_iload hx hb dX12_feed_25 (lv_at hl 0 rfl) ?_
  refine lv_iconst (v := 4) hx hb dX12_feed_27 (by decide) ?_
  refine lv_icmp_ge (tgt := 35) hx hb dX12_feed_28 (by decide) (fun c_83 => ?_) (fun c_83 => absurd c_83 (by decide))
  refine lv_iload hx hb dX12_feed_35 (lv_at hl 0 rfl) ?_
  refine lv_bipush (v := 8) hx hb dX12_feed_37 (by decide) ?_
  refine lv_icmp_ge (tgt := 46) hx hb dX12_feed_39 (by decide) (fun c_84 => ?_) (fun c_84 => absurd c_84 (by decide))
  refine lv_iload hx hb dX12_feed_46 (lv_at hl 0 rfl) ?_
  refine lv_bipush (v := 12) hx hb dX12_feed_48 (by decide) ?_
  refine lv_icmp_ge (tgt := 57) hx hb dX12_feed_50 (by decide) (fun c_85 => ?_) (fun c_85 => absurd c_85 (by decide))
  refine lv_iload hx hb dX12_feed_57 (lv_at hl 0 rfl) ?_
  refine lv_bipush (v := 16) hx hb dX12_feed_59 (by decide) ?_
  refine lv_icmp_ge (tgt := 69) hx hb dX12_feed_61 (by decide) (fun c_86 => absurd c_86 (by decide)) (fun c_86 => ?_)
  refine lv_iload hx hb dX12_feed_64 (lv_at hl 6 rfl) ?_
  refine lv_goto (tgt := 71) hx hb dX12_feed_66 (by decide) ?_
  refine lv_istore (lv' := [(7, .int p3), (6, .int 13), (0, .ref h0), (1, .int p0), (2, .int p1), (3, .int p2), (4, .int p3), (5, .int p4)]) hx hb dX12_feed_71 hl (by decide) rfl (fun ls hl => ?_)
  refine lv_aload_n hx hb dX12_feed_73 rfl (lv_at hl 2 rfl) ?_
  refine va_get (D := (dC, dI)) (ci := 12) (v := .ref h1) (C := RX12) (T := TX12) (N := 80) hx hb hts hiX12 hown hK hP 0 rfl rfl 0 (by decide) (hts (.fieldLink RX12 7 "CakePapersModel" "tape" "[B") (by decide +kernel)) (fun _ h9 => h9) e_fs_0 dX12_feed_74 ?_
  refine lv_aload_n hx hb dX12_feed_77 rfl (lv_at hl 2 rfl) ?_
  refine va_get (D := (dC, dI)) (ci := 12) (v := .int 0) (C := RX12) (T := TX12) (N := 80) hx hb hts hiX12 hown hK hP 0 rfl rfl 2 (by decide) (hts (.fieldLink RX12 247 "CakePapersModel" "taped" "I") (by decide +kernel)) (fun _ h9 => h9) e_fs_2 dX12_feed_78 ?_
  refine lv_iload hx hb dX12_feed_81 (lv_at hl 1 rfl) ?_
  refine lv_iadd hx hb dX12_feed_83 ?_
  refine zz_ci (y := 13) (by decide) ?_
  refine lv_iload hx hb dX12_feed_84 (lv_at hl 0 rfl) ?_
  refine lv_bipush (v := 24) hx hb dX12_feed_86 (by decide) ?_
  refine lv_bipush (v := 8) hx hb dX12_feed_88 (by decide) ?_
  refine lv_iload hx hb dX12_feed_90 (lv_at hl 1 rfl) ?_
  refine lv_iconst (v := 3) hx hb dX12_feed_92 (by decide) ?_
  refine lv_iand hx hb dX12_feed_93 ?_
  refine zz_ci (y := 1) (by decide) ?_
  refine lv_imul hx hb dX12_feed_94 ?_
  refine zz_ci (y := 8) (by decide) ?_
  refine lv_isub hx hb dX12_feed_95 ?_
  refine zz_ci (y := 16) (by decide) ?_
  refine lv_ishr hx hb dX12_feed_96 ?_
  refine lv_topi (fun v_87 _ => ?_)
  refine lv_i2b hx hb dX12_feed_97 rfl ?_
  refine lv_topi (fun v_88 _ => ?_)
  refine va_bast hx hb hK hP hD hS 1 0 rfl rfl (zz_in (by decide)) dX12_feed_98 (fun H locs hP hD hS => ?_)
  obtain ⟨f_89, hP, hD⟩ : ∃ f_89 : Nat → Int32, va_P (dC, dI) vwCl [(h0, .inr (12, fs)), (h1, .inl (cY, 1220, .inl f_89))] H ∧ va_D A [(h0, .inr (12, fs)), (h1, .inl (cY, 1220, .inl f_89))] := ⟨_, hP, hD⟩
  refine lv_iinc (v := 14) (lv' := [(6, .int 14), (7, .int p3), (0, .ref h0), (1, .int p0), (2, .int p1), (3, .int p2), (4, .int p3), (5, .int p4)]) hx hb dX12_feed_99 hl (k := 1) rfl (by decide) (by decide) rfl (fun ls hl => ?_)
  refine lv_goto (tgt := 18) hx hb dX12_feed_102 (by decide) ?_
  refine lv_iload hx hb dX12_feed_18 (lv_at hl 0 rfl) ?_
  refine lv_bipush (v := 20) hx hb dX12_feed_20 (by decide) ?_
  refine lv_icmp_ge (tgt := 105) hx hb dX12_feed_22 (by decide) (fun c_90 => absurd c_90 (by decide)) (fun c_90 => ?_)
  refine lv_iload hx hb dX12_feed_25 (lv_at hl 0 rfl) ?_
  refine lv_iconst (v := 4) hx hb dX12_feed_27 (by decide) ?_
  refine lv_icmp_ge (tgt := 35) hx hb dX12_feed_28 (by decide) (fun c_91 => ?_) (fun c_91 => absurd c_91 (by decide))
  refine lv_iload hx hb dX12_feed_35 (lv_at hl 0 rfl) ?_
  refine lv_bipush (v := 8) hx hb dX12_feed_37 (by decide) ?_
  refine lv_icmp_ge (tgt := 46) hx hb dX12_feed_39 (by decide) (fun c_92 => ?_) (fun c_92 => absurd c_92 (by decide))
  refine lv_iload hx hb dX12_feed_46 (lv_at hl 0 rfl) ?_
  refine lv_bipush (v := 12) hx hb dX12_feed_48 (by decide) ?_
  refine lv_icmp_ge (tgt := 57) hx hb dX12_feed_50 (by decide) (fun c_93 => ?_) (fun c_93 => absurd c_93 (by decide))
  refine lv_iload hx hb dX12_feed_57 (lv_at hl 0 rfl) ?_
  refine lv_bipush (v := 16) hx hb dX12_feed_59 (by decide) ?_
  refine lv_icmp_ge (tgt := 69) hx hb dX12_feed_61 (by decide) (fun c_94 => absurd c_94 (by decide)) (fun c_94 => ?_)
  refine lv_iload hx hb dX12_feed_64 (lv_at hl 6 rfl) ?_
  refine lv_goto (tgt := 71) hx hb dX12_feed_66 (by decide) ?_
  refine lv_istore (lv' := [(7, .int p3), (6, .int 14), (0, .ref h0), (1, .int p0), (2, .int p1), (3, .int p2), (4, .int p3), (5, .int p4)]) hx hb dX12_feed_71 hl (by decide) rfl (fun ls hl => ?_)
  refine lv_aload_n hx hb dX12_feed_73 rfl (lv_at hl 2 rfl) ?_
  refine va_get (D := (dC, dI)) (ci := 12) (v := .ref h1) (C := RX12) (T := TX12) (N := 80) hx hb hts hiX12 hown hK hP 0 rfl rfl 0 (by decide) (hts (.fieldLink RX12 7 "CakePapersModel" "tape" "[B") (by decide +kernel)) (fun _ h9 => h9) e_fs_0 dX12_feed_74 ?_
  refine lv_aload_n hx hb dX12_feed_77 rfl (lv_at hl 2 rfl) ?_
  refine va_get (D := (dC, dI)) (ci := 12) (v := .int 0) (C := RX12) (T := TX12) (N := 80) hx hb hts hiX12 hown hK hP 0 rfl rfl 2 (by decide) (hts (.fieldLink RX12 247 "CakePapersModel" "taped" "I") (by decide +kernel)) (fun _ h9 => h9) e_fs_2 dX12_feed_78 ?_
  refine lv_iload hx hb dX12_feed_81 (lv_at hl 1 rfl) ?_
  refine lv_iadd hx hb dX12_feed_83 ?_
  refine zz_ci (y := 14) (by decide) ?_
  refine lv_iload hx hb dX12_feed_84 (lv_at hl 0 rfl) ?_
  refine lv_bipush (v := 24) hx hb dX12_feed_86 (by decide) ?_
  refine lv_bipush (v := 8) hx hb dX12_feed_88 (by decide) ?_
  refine lv_iload hx hb dX12_feed_90 (lv_at hl 1 rfl) ?_
  refine lv_iconst (v := 3) hx hb dX12_feed_92 (by decide) ?_
  refine lv_iand hx hb dX12_feed_93 ?_
  refine zz_ci (y := 2) (by decide) ?_
  refine lv_imul hx hb dX12_feed_94 ?_
  refine zz_ci (y := 16) (by decide) ?_
  refine lv_isub hx hb dX12_feed_95 ?_
  refine zz_ci (y := 8) (by decide) ?_
  refine lv_ishr hx hb dX12_feed_96 ?_
  refine lv_topi (fun v_95 _ => ?_)
  refine lv_i2b hx hb dX12_feed_97 rfl ?_
  refine lv_topi (fun v_96 _ => ?_)
  refine va_bast hx hb hK hP hD hS 1 0 rfl rfl (zz_in (by decide)) dX12_feed_98 (fun H locs hP hD hS => ?_)
  obtain ⟨f_97, hP, hD⟩ : ∃ f_97 : Nat → Int32, va_P (dC, dI) vwCl [(h0, .inr (12, fs)), (h1, .inl (cY, 1220, .inl f_97))] H ∧ va_D A [(h0, .inr (12, fs)), (h1, .inl (cY, 1220, .inl f_97))] := ⟨_, hP, hD⟩
  refine lv_iinc (v := 15) (lv' := [(6, .int 15), (7, .int p3), (0, .ref h0), (1, .int p0), (2, .int p1), (3, .int p2), (4, .int p3), (5, .int p4)]) hx hb dX12_feed_99 hl (k := 1) rfl (by decide) (by decide) rfl (fun ls hl => ?_)
  refine lv_goto (tgt := 18) hx hb dX12_feed_102 (by decide) ?_
  refine lv_iload hx hb dX12_feed_18 (lv_at hl 0 rfl) ?_
  refine lv_bipush (v := 20) hx hb dX12_feed_20 (by decide) ?_
  refine lv_icmp_ge (tgt := 105) hx hb dX12_feed_22 (by decide) (fun c_98 => absurd c_98 (by decide)) (fun c_98 => ?_)
  refine lv_iload hx hb dX12_feed_25 (lv_at hl 0 rfl) ?_
  refine lv_iconst (v := 4) hx hb dX12_feed_27 (by decide) ?_
  refine lv_icmp_ge (tgt := 35) hx hb dX12_feed_28 (by decide) (fun c_99 => ?_) (fun c_99 => absurd c_99 (by decide))
  refine lv_iload hx hb dX12_feed_35 (lv_at hl 0 rfl) ?_
  refine lv_bipush (v := 8) hx hb dX12_feed_37 (by decide) ?_
  refine lv_icmp_ge (tgt := 46) hx hb dX12_feed_39 (by decide) (fun c_100 => ?_) (fun c_100 => absurd c_100 (by decide))
  refine lv_iload hx hb dX12_feed_46 (lv_at hl 0 rfl) ?_
  refine lv_bipush (v := 12) hx hb dX12_feed_48 (by decide) ?_
  refine lv_icmp_ge (tgt := 57) hx hb dX12_feed_50 (by decide) (fun c_101 => ?_) (fun c_101 => absurd c_101 (by decide))
  refine lv_iload hx hb dX12_feed_57 (lv_at hl 0 rfl) ?_
  refine lv_bipush (v := 16) hx hb dX12_feed_59 (by decide) ?_
  refine lv_icmp_ge (tgt := 69) hx hb dX12_feed_61 (by decide) (fun c_102 => absurd c_102 (by decide)) (fun c_102 => ?_)
  refine lv_iload hx hb dX12_feed_64 (lv_at hl 6 rfl) ?_
  refine lv_goto (tgt := 71) hx hb dX12_feed_66 (by decide) ?_
  refine lv_istore (lv' := [(7, .int p3), (6, .int 15), (0, .ref h0), (1, .int p0), (2, .int p1), (3, .int p2), (4, .int p3), (5, .int p4)]) hx hb dX12_feed_71 hl (by decide) rfl (fun ls hl => ?_)
  refine lv_aload_n hx hb dX12_feed_73 rfl (lv_at hl 2 rfl) ?_
  refine va_get (D := (dC, dI)) (ci := 12) (v := .ref h1) (C := RX12) (T := TX12) (N := 80) hx hb hts hiX12 hown hK hP 0 rfl rfl 0 (by decide) (hts (.fieldLink RX12 7 "CakePapersModel" "tape" "[B") (by decide +kernel)) (fun _ h9 => h9) e_fs_0 dX12_feed_74 ?_
  refine lv_aload_n hx hb dX12_feed_77 rfl (lv_at hl 2 rfl) ?_
  refine va_get (D := (dC, dI)) (ci := 12) (v := .int 0) (C := RX12) (T := TX12) (N := 80) hx hb hts hiX12 hown hK hP 0 rfl rfl 2 (by decide) (hts (.fieldLink RX12 247 "CakePapersModel" "taped" "I") (by decide +kernel)) (fun _ h9 => h9) e_fs_2 dX12_feed_78 ?_
  refine lv_iload hx hb dX12_feed_81 (lv_at hl 1 rfl) ?_
  refine lv_iadd hx hb dX12_feed_83 ?_
  refine zz_ci (y := 15) (by decide) ?_
  refine lv_iload hx hb dX12_feed_84 (lv_at hl 0 rfl) ?_
  refine lv_bipush (v := 24) hx hb dX12_feed_86 (by decide) ?_
  refine lv_bipush (v := 8) hx hb dX12_feed_88 (by decide) ?_
  refine lv_iload hx hb dX12_feed_90 (lv_at hl 1 rfl) ?_
  refine lv_iconst (v := 3) hx hb dX12_feed_92 (by decide) ?_
  refine lv_iand hx hb dX12_feed_93 ?_
  refine zz_ci (y := 3) (by decide) ?_
  refine lv_imul hx hb dX12_feed_94 ?_
  refine zz_ci (y := 24) (by decide) ?_
  refine lv_isub hx hb dX12_feed_95 ?_
  refine zz_ci (y := 0) (by decide) ?_
  refine lv_ishr hx hb dX12_feed_96 ?_
  refine lv_topi (fun v_103 _ => ?_)
  refine lv_i2b hx hb dX12_feed_97 rfl ?_
  refine lv_topi (fun v_104 _ => ?_)
  refine va_bast hx hb hK hP hD hS 1 0 rfl rfl (zz_in (by decide)) dX12_feed_98 (fun H locs hP hD hS => ?_)
  obtain ⟨f_105, hP, hD⟩ : ∃ f_105 : Nat → Int32, va_P (dC, dI) vwCl [(h0, .inr (12, fs)), (h1, .inl (cY, 1220, .inl f_105))] H ∧ va_D A [(h0, .inr (12, fs)), (h1, .inl (cY, 1220, .inl f_105))] := ⟨_, hP, hD⟩
  refine lv_iinc (v := 16) (lv' := [(6, .int 16), (7, .int p3), (0, .ref h0), (1, .int p0), (2, .int p1), (3, .int p2), (4, .int p3), (5, .int p4)]) hx hb dX12_feed_99 hl (k := 1) rfl (by decide) (by decide) rfl (fun ls hl => ?_)
  refine lv_goto (tgt := 18) hx hb dX12_feed_102 (by decide) ?_
  refine lv_iload hx hb dX12_feed_18 (lv_at hl 0 rfl) ?_
  refine lv_bipush (v := 20) hx hb dX12_feed_20 (by decide) ?_
  refine lv_icmp_ge (tgt := 105) hx hb dX12_feed_22 (by decide) (fun c_106 => absurd c_106 (by decide)) (fun c_106 => ?_)
  refine lv_iload hx hb dX12_feed_25 (lv_at hl 0 rfl) ?_
  refine lv_iconst (v := 4) hx hb dX12_feed_27 (by decide) ?_
  refine lv_icmp_ge (tgt := 35) hx hb dX12_feed_28 (by decide) (fun c_107 => ?_) (fun c_107 => absurd c_107 (by decide))
  refine lv_iload hx hb dX12_feed_35 (lv_at hl 0 rfl) ?_
  refine lv_bipush (v := 8) hx hb dX12_feed_37 (by decide) ?_
  refine lv_icmp_ge (tgt := 46) hx hb dX12_feed_39 (by decide) (fun c_108 => ?_) (fun c_108 => absurd c_108 (by decide))
  refine lv_iload hx hb dX12_feed_46 (lv_at hl 0 rfl) ?_
  refine lv_bipush (v := 12) hx hb dX12_feed_48 (by decide) ?_
  refine lv_icmp_ge (tgt := 57) hx hb dX12_feed_50 (by decide) (fun c_109 => ?_) (fun c_109 => absurd c_109 (by decide))
  refine lv_iload hx hb dX12_feed_57 (lv_at hl 0 rfl) ?_
  refine lv_bipush (v := 16) hx hb dX12_feed_59 (by decide) ?_
  refine lv_icmp_ge (tgt := 69) hx hb dX12_feed_61 (by decide) (fun c_110 => ?_) (fun c_110 => absurd c_110 (by decide))
  refine lv_iload hx hb dX12_feed_69 (lv_at hl 7 rfl) ?_
  refine lv_istore (lv' := [(7, .int p4), (6, .int 16), (0, .ref h0), (1, .int p0), (2, .int p1), (3, .int p2), (4, .int p3), (5, .int p4)]) hx hb dX12_feed_71 hl (by decide) rfl (fun ls hl => ?_)
  refine lv_aload_n hx hb dX12_feed_73 rfl (lv_at hl 2 rfl) ?_
  refine va_get (D := (dC, dI)) (ci := 12) (v := .ref h1) (C := RX12) (T := TX12) (N := 80) hx hb hts hiX12 hown hK hP 0 rfl rfl 0 (by decide) (hts (.fieldLink RX12 7 "CakePapersModel" "tape" "[B") (by decide +kernel)) (fun _ h9 => h9) e_fs_0 dX12_feed_74 ?_
  refine lv_aload_n hx hb dX12_feed_77 rfl (lv_at hl 2 rfl) ?_
  refine va_get (D := (dC, dI)) (ci := 12) (v := .int 0) (C := RX12) (T := TX12) (N := 80) hx hb hts hiX12 hown hK hP 0 rfl rfl 2 (by decide) (hts (.fieldLink RX12 247 "CakePapersModel" "taped" "I") (by decide +kernel)) (fun _ h9 => h9) e_fs_2 dX12_feed_78 ?_
  refine lv_iload hx hb dX12_feed_81 (lv_at hl 1 rfl) ?_
  refine lv_iadd hx hb dX12_feed_83 ?_
  refine zz_ci (y := 16) (by decide) ?_
  refine lv_iload hx hb dX12_feed_84 (lv_at hl 0 rfl) ?_
  refine lv_bipush (v := 24) hx hb dX12_feed_86 (by decide) ?_
  refine lv_bipush (v := 8) hx hb dX12_feed_88 (by decide) ?_
  refine lv_iload hx hb dX12_feed_90 (lv_at hl 1 rfl) ?_
  refine lv_iconst (v := 3) hx hb dX12_feed_92 (by decide) ?_
  refine lv_iand hx hb dX12_feed_93 ?_
  refine zz_ci (y := 0) (by decide) ?_
  refine lv_imul hx hb dX12_feed_94 ?_
  refine zz_ci (y := 0) (by decide) ?_
  refine lv_isub hx hb dX12_feed_95 ?_
  refine zz_ci (y := 24) (by decide) ?_
  refine lv_ishr hx hb dX12_feed_96 ?_
  refine lv_topi (fun v_111 _ => ?_)
  refine lv_i2b hx hb dX12_feed_97 rfl ?_
  refine lv_topi (fun v_112 _ => ?_)
  refine va_bast hx hb hK hP hD hS 1 0 rfl rfl (zz_in (by decide)) dX12_feed_98 (fun H locs hP hD hS => ?_)
  obtain ⟨f_113, hP, hD⟩ : ∃ f_113 : Nat → Int32, va_P (dC, dI) vwCl [(h0, .inr (12, fs)), (h1, .inl (cY, 1220, .inl f_113))] H ∧ va_D A [(h0, .inr (12, fs)), (h1, .inl (cY, 1220, .inl f_113))] := ⟨_, hP, hD⟩
  refine lv_iinc (v := 17) (lv' := [(6, .int 17), (7, .int p4), (0, .ref h0), (1, .int p0), (2, .int p1), (3, .int p2), (4, .int p3), (5, .int p4)]) hx hb dX12_feed_99 hl (k := 1) rfl (by decide) (by decide) rfl (fun ls hl => ?_)
  refine lv_goto (tgt := 18) hx hb dX12_feed_102 (by decide) ?_
  refine lv_iload hx hb dX12_feed_18 (lv_at hl 0 rfl) ?_
  refine lv_bipush (v := 20) hx hb dX12_feed_20 (by decide) ?_
  refine lv_icmp_ge (tgt := 105) hx hb dX12_feed_22 (by decide) (fun c_114 => absurd c_114 (by decide)) (fun c_114 => ?_)
  refine lv_iload hx hb dX12_feed_25 (lv_at hl 0 rfl) ?_
  refine lv_iconst (v := 4) hx hb dX12_feed_27 (by decide) ?_
  refine lv_icmp_ge (tgt := 35) hx hb dX12_feed_28 (by decide) (fun c_115 => ?_) (fun c_115 => absurd c_115 (by decide))
  refine lv_iload hx hb dX12_feed_35 (lv_at hl 0 rfl) ?_
  refine lv_bipush (v := 8) hx hb dX12_feed_37 (by decide) ?_
  refine lv_icmp_ge (tgt := 46) hx hb dX12_feed_39 (by decide) (fun c_116 => ?_) (fun c_116 => absurd c_116 (by decide))
  refine lv_iload hx hb dX12_feed_46 (lv_at hl 0 rfl) ?_
  refine lv_bipush (v := 12) hx hb dX12_feed_48 (by decide) ?_
  refine lv_icmp_ge (tgt := 57) hx hb dX12_feed_50 (by decide) (fun c_117 => ?_) (fun c_117 => absurd c_117 (by decide))
  refine lv_iload hx hb dX12_feed_57 (lv_at hl 0 rfl) ?_
  refine lv_bipush (v := 16) hx hb dX12_feed_59 (by decide) ?_
  refine lv_icmp_ge (tgt := 69) hx hb dX12_feed_61 (by decide) (fun c_118 => ?_) (fun c_118 => absurd c_118 (by decide))
  refine lv_iload hx hb dX12_feed_69 (lv_at hl 7 rfl) ?_
  refine lv_istore (lv' := [(7, .int p4), (6, .int 17), (0, .ref h0), (1, .int p0), (2, .int p1), (3, .int p2), (4, .int p3), (5, .int p4)]) hx hb dX12_feed_71 hl (by decide) rfl (fun ls hl => ?_)
  refine lv_aload_n hx hb dX12_feed_73 rfl (lv_at hl 2 rfl) ?_
  refine va_get (D := (dC, dI)) (ci := 12) (v := .ref h1) (C := RX12) (T := TX12) (N := 80) hx hb hts hiX12 hown hK hP 0 rfl rfl 0 (by decide) (hts (.fieldLink RX12 7 "CakePapersModel" "tape" "[B") (by decide +kernel)) (fun _ h9 => h9) e_fs_0 dX12_feed_74 ?_
  refine lv_aload_n hx hb dX12_feed_77 rfl (lv_at hl 2 rfl) ?_
  refine va_get (D := (dC, dI)) (ci := 12) (v := .int 0) (C := RX12) (T := TX12) (N := 80) hx hb hts hiX12 hown hK hP 0 rfl rfl 2 (by decide) (hts (.fieldLink RX12 247 "CakePapersModel" "taped" "I") (by decide +kernel)) (fun _ h9 => h9) e_fs_2 dX12_feed_78 ?_
  refine lv_iload hx hb dX12_feed_81 (lv_at hl 1 rfl) ?_
  refine lv_iadd hx hb dX12_feed_83 ?_
  refine zz_ci (y := 17) (by decide) ?_
  refine lv_iload hx hb dX12_feed_84 (lv_at hl 0 rfl) ?_
  refine lv_bipush (v := 24) hx hb dX12_feed_86 (by decide) ?_
  refine lv_bipush (v := 8) hx hb dX12_feed_88 (by decide) ?_
  refine lv_iload hx hb dX12_feed_90 (lv_at hl 1 rfl) ?_
  refine lv_iconst (v := 3) hx hb dX12_feed_92 (by decide) ?_
  refine lv_iand hx hb dX12_feed_93 ?_
  refine zz_ci (y := 1) (by decide) ?_
  refine lv_imul hx hb dX12_feed_94 ?_
  refine zz_ci (y := 8) (by decide) ?_
  refine lv_isub hx hb dX12_feed_95 ?_
  refine zz_ci (y := 16) (by decide) ?_
  refine lv_ishr hx hb dX12_feed_96 ?_
  refine lv_topi (fun v_119 _ => ?_)
  refine lv_i2b hx hb dX12_feed_97 rfl ?_
  refine lv_topi (fun v_120 _ => ?_)
  refine va_bast hx hb hK hP hD hS 1 0 rfl rfl (zz_in (by decide)) dX12_feed_98 (fun H locs hP hD hS => ?_)
  obtain ⟨f_121, hP, hD⟩ : ∃ f_121 : Nat → Int32, va_P (dC, dI) vwCl [(h0, .inr (12, fs)), (h1, .inl (cY, 1220, .inl f_121))] H ∧ va_D A [(h0, .inr (12, fs)), (h1, .inl (cY, 1220, .inl f_121))] := ⟨_, hP, hD⟩
  refine lv_iinc (v := 18) (lv' := [(6, .int 18), (7, .int p4), (0, .ref h0), (1, .int p0), (2, .int p1), (3, .int p2), (4, .int p3), (5, .int p4)]) hx hb dX12_feed_99 hl (k := 1) rfl (by decide) (by decide) rfl (fun ls hl => ?_)
  refine lv_goto (tgt := 18) hx hb dX12_feed_102 (by decide) ?_
  refine lv_iload hx hb dX12_feed_18 (lv_at hl 0 rfl) ?_
  refine lv_bipush (v := 20) hx hb dX12_feed_20 (by decide) ?_
  refine lv_icmp_ge (tgt := 105) hx hb dX12_feed_22 (by decide) (fun c_122 => absurd c_122 (by decide)) (fun c_122 => ?_)
  refine lv_iload hx hb dX12_feed_25 (lv_at hl 0 rfl) ?_
  refine lv_iconst (v := 4) hx hb dX12_feed_27 (by decide) ?_
  refine lv_icmp_ge (tgt := 35) hx hb dX12_feed_28 (by decide) (fun c_123 => ?_) (fun c_123 => absurd c_123 (by decide))
  refine lv_iload hx hb dX12_feed_35 (lv_at hl 0 rfl) ?_
  refine lv_bipush (v := 8) hx hb dX12_feed_37 (by decide) ?_
  refine lv_icmp_ge (tgt := 46) hx hb dX12_feed_39 (by decide) (fun c_124 => ?_) (fun c_124 => absurd c_124 (by decide))
  refine lv_iload hx hb dX12_feed_46 (lv_at hl 0 rfl) ?_
  refine lv_bipush (v := 12) hx hb dX12_feed_48 (by decide) ?_
  refine lv_icmp_ge (tgt := 57) hx hb dX12_feed_50 (by decide) (fun c_125 => ?_) (fun c_125 => absurd c_125 (by decide))
  refine lv_iload hx hb dX12_feed_57 (lv_at hl 0 rfl) ?_
  refine lv_bipush (v := 16) hx hb dX12_feed_59 (by decide) ?_
  refine lv_icmp_ge (tgt := 69) hx hb dX12_feed_61 (by decide) (fun c_126 => ?_) (fun c_126 => absurd c_126 (by decide))
  refine lv_iload hx hb dX12_feed_69 (lv_at hl 7 rfl) ?_
  refine lv_istore (lv' := [(7, .int p4), (6, .int 18), (0, .ref h0), (1, .int p0), (2, .int p1), (3, .int p2), (4, .int p3), (5, .int p4)]) hx hb dX12_feed_71 hl (by decide) rfl (fun ls hl => ?_)
  refine lv_aload_n hx hb dX12_feed_73 rfl (lv_at hl 2 rfl) ?_
  refine va_get (D := (dC, dI)) (ci := 12) (v := .ref h1) (C := RX12) (T := TX12) (N := 80) hx hb hts hiX12 hown hK hP 0 rfl rfl 0 (by decide) (hts (.fieldLink RX12 7 "CakePapersModel" "tape" "[B") (by decide +kernel)) (fun _ h9 => h9) e_fs_0 dX12_feed_74 ?_
  refine lv_aload_n hx hb dX12_feed_77 rfl (lv_at hl 2 rfl) ?_
  refine va_get (D := (dC, dI)) (ci := 12) (v := .int 0) (C := RX12) (T := TX12) (N := 80) hx hb hts hiX12 hown hK hP 0 rfl rfl 2 (by decide) (hts (.fieldLink RX12 247 "CakePapersModel" "taped" "I") (by decide +kernel)) (fun _ h9 => h9) e_fs_2 dX12_feed_78 ?_
  refine lv_iload hx hb dX12_feed_81 (lv_at hl 1 rfl) ?_
  refine lv_iadd hx hb dX12_feed_83 ?_
  refine zz_ci (y := 18) (by decide) ?_
  refine lv_iload hx hb dX12_feed_84 (lv_at hl 0 rfl) ?_
  refine lv_bipush (v := 24) hx hb dX12_feed_86 (by decide) ?_
  refine lv_bipush (v := 8) hx hb dX12_feed_88 (by decide) ?_
  refine lv_iload hx hb dX12_feed_90 (lv_at hl 1 rfl) ?_
  refine lv_iconst (v := 3) hx hb dX12_feed_92 (by decide) ?_
  refine lv_iand hx hb dX12_feed_93 ?_
  refine zz_ci (y := 2) (by decide) ?_
  refine lv_imul hx hb dX12_feed_94 ?_
  refine zz_ci (y := 16) (by decide) ?_
  refine lv_isub hx hb dX12_feed_95 ?_
  refine zz_ci (y := 8) (by decide) ?_
  refine lv_ishr hx hb dX12_feed_96 ?_
  refine lv_topi (fun v_127 _ => ?_)
  refine lv_i2b hx hb dX12_feed_97 rfl ?_
  refine lv_topi (fun v_128 _ => ?_)
  refine va_bast hx hb hK hP hD hS 1 0 rfl rfl (zz_in (by decide)) dX12_feed_98 (fun H locs hP hD hS => ?_)
  obtain ⟨f_129, hP, hD⟩ : ∃ f_129 : Nat → Int32, va_P (dC, dI) vwCl [(h0, .inr (12, fs)), (h1, .inl (cY, 1220, .inl f_129))] H ∧ va_D A [(h0, .inr (12, fs)), (h1, .inl (cY, 1220, .inl f_129))] := ⟨_, hP, hD⟩
  refine lv_iinc (v := 19) (lv' := [(6, .int 19), (7, .int p4), (0, .ref h0), (1, .int p0), (2, .int p1), (3, .int p2), (4, .int p3), (5, .int p4)]) hx hb dX12_feed_99 hl (k := 1) rfl (by decide) (by decide) rfl (fun ls hl => ?_)
  refine lv_goto (tgt := 18) hx hb dX12_feed_102 (by decide) ?_
  refine lv_iload hx hb dX12_feed_18 (lv_at hl 0 rfl) ?_
  refine lv_bipush (v := 20) hx hb dX12_feed_20 (by decide) ?_
  refine lv_icmp_ge (tgt := 105) hx hb dX12_feed_22 (by decide) (fun c_130 => absurd c_130 (by decide)) (fun c_130 => ?_)
  refine lv_iload hx hb dX12_feed_25 (lv_at hl 0 rfl) ?_
  refine lv_iconst (v := 4) hx hb dX12_feed_27 (by decide) ?_
  refine lv_icmp_ge (tgt := 35) hx hb dX12_feed_28 (by decide) (fun c_131 => ?_) (fun c_131 => absurd c_131 (by decide))
  refine lv_iload hx hb dX12_feed_35 (lv_at hl 0 rfl) ?_
  refine lv_bipush (v := 8) hx hb dX12_feed_37 (by decide) ?_
  refine lv_icmp_ge (tgt := 46) hx hb dX12_feed_39 (by decide) (fun c_132 => ?_) (fun c_132 => absurd c_132 (by decide))
  refine lv_iload hx hb dX12_feed_46 (lv_at hl 0 rfl) ?_
  refine lv_bipush (v := 12) hx hb dX12_feed_48 (by decide) ?_
  refine lv_icmp_ge (tgt := 57) hx hb dX12_feed_50 (by decide) (fun c_133 => ?_) (fun c_133 => absurd c_133 (by decide))
  refine lv_iload hx hb dX12_feed_57 (lv_at hl 0 rfl) ?_
  refine lv_bipush (v := 16) hx hb dX12_feed_59 (by decide) ?_
  refine lv_icmp_ge (tgt := 69) hx hb dX12_feed_61 (by decide) (fun c_134 => ?_) (fun c_134 => absurd c_134 (by decide))
  refine lv_iload hx hb dX12_feed_69 (lv_at hl 7 rfl) ?_
  refine lv_istore (lv' := [(7, .int p4), (6, .int 19), (0, .ref h0), (1, .int p0), (2, .int p1), (3, .int p2), (4, .int p3), (5, .int p4)]) hx hb dX12_feed_71 hl (by decide) rfl (fun ls hl => ?_)
  refine lv_aload_n hx hb dX12_feed_73 rfl (lv_at hl 2 rfl) ?_
  refine va_get (D := (dC, dI)) (ci := 12) (v := .ref h1) (C := RX12) (T := TX12) (N := 80) hx hb hts hiX12 hown hK hP 0 rfl rfl 0 (by decide) (hts (.fieldLink RX12 7 "CakePapersModel" "tape" "[B") (by decide +kernel)) (fun _ h9 => h9) e_fs_0 dX12_feed_74 ?_
  refine lv_aload_n hx hb dX12_feed_77 rfl (lv_at hl 2 rfl) ?_
  refine va_get (D := (dC, dI)) (ci := 12) (v := .int 0) (C := RX12) (T := TX12) (N := 80) hx hb hts hiX12 hown hK hP 0 rfl rfl 2 (by decide) (hts (.fieldLink RX12 247 "CakePapersModel" "taped" "I") (by decide +kernel)) (fun _ h9 => h9) e_fs_2 dX12_feed_78 ?_
  refine lv_iload hx hb dX12_feed_81 (lv_at hl 1 rfl) ?_
  refine lv_iadd hx hb dX12_feed_83 ?_
  refine zz_ci (y := 19) (by decide) ?_
  refine lv_iload hx hb dX12_feed_84 (lv_at hl 0 rfl) ?_
  refine lv_bipush (v := 24) hx hb dX12_feed_86 (by decide) ?_
  refine lv_bipush (v := 8) hx hb dX12_feed_88 (by decide) ?_
  refine lv_iload hx hb dX12_feed_90 (lv_at hl 1 rfl) ?_
  refine lv_iconst (v := 3) hx hb dX12_feed_92 (by decide) ?_
  refine lv_iand hx hb dX12_feed_93 ?_
  refine zz_ci (y := 3) (by decide) ?_
  refine lv_imul hx hb dX12_feed_94 ?_
  refine zz_ci (y := 24) (by decide) ?_
  refine lv_isub hx hb dX12_feed_95 ?_
  refine zz_ci (y := 0) (by decide) ?_
  refine lv_ishr hx hb dX12_feed_96 ?_
  refine lv_topi (fun v_135 _ => ?_)
  refine lv_i2b hx hb dX12_feed_97 rfl ?_
  refine lv_topi (fun v_136 _ => ?_)
  refine va_bast hx hb hK hP hD hS 1 0 rfl rfl (zz_in (by decide)) dX12_feed_98 (fun H locs hP hD hS => ?_)
  obtain ⟨f_137, hP, hD⟩ : ∃ f_137 : Nat → Int32, va_P (dC, dI) vwCl [(h0, .inr (12, fs)), (h1, .inl (cY, 1220, .inl f_137))] H ∧ va_D A [(h0, .inr (12, fs)), (h1, .inl (cY, 1220, .inl f_137))] := ⟨_, hP, hD⟩
  refine lv_iinc (v := 20) (lv' := [(6, .int 20), (7, .int p4), (0, .ref h0), (1, .int p0), (2, .int p1), (3, .int p2), (4, .int p3), (5, .int p4)]) hx hb dX12_feed_99 hl (k := 1) rfl (by decide) (by decide) rfl (fun ls hl => ?_)
  refine lv_goto (tgt := 18) hx hb dX12_feed_102 (by decide) ?_
  refine lv_iload hx hb dX12_feed_18 (lv_at hl 0 rfl) ?_
  refine lv_bipush (v := 20) hx hb dX12_feed_20 (by decide) ?_
  refine lv_icmp_ge (tgt := 105) hx hb dX12_feed_22 (by decide) (fun c_138 => ?_) (fun c_138 => absurd c_138 (by decide))
  refine lv_aload_n hx hb dX12_feed_105 rfl (lv_at hl 2 rfl) ?_
  refine lv_dup hx hb dX12_feed_106 rfl ?_
  refine va_get (D := (dC, dI)) (ci := 12) (v := .int 0) (C := RX12) (T := TX12) (N := 80) hx hb hts hiX12 hown hK hP 0 rfl rfl 2 (by decide) (hts (.fieldLink RX12 247 "CakePapersModel" "taped" "I") (by decide +kernel)) (fun _ h9 => h9) e_fs_2 dX12_feed_107 ?_
  refine lv_bipush (v := 20) hx hb dX12_feed_110 (by decide) ?_
  refine lv_iadd hx hb dX12_feed_112 ?_
  refine zz_ci (y := 20) (by decide) ?_
  refine va_put (D := (dC, dI)) (ci := 12) (v := .int 20) (ty := .int) (C := RX12) (T := TX12) (N := 80) hx hb hts hiX12 tyX12 tyX12_ok nmX12 hown hK hP hD hS 0 rfl rfl 2 (by decide) (hts (.fieldLink RX12 247 "CakePapersModel" "taped" "I") (by decide +kernel)) (fun _ h9 => h9) rfl (by decide +kernel) rfl rfl (by simp [hn_fs]) dX12_feed_113 (fun H locs hP hD hS => ?_)
  have hP : va_P (dC, dI) vwCl [(h0, .inr (12, (List.set fs 2 (.int 20)))), (h1, .inl (cY, 1220, .inl f_137))] H := hP
  have hD : va_D A [(h0, .inr (12, (List.set fs 2 (.int 20)))), (h1, .inl (cY, 1220, .inl f_137))] := hD
  refine lv_aload_n hx hb dX12_feed_116 rfl (lv_at hl 2 rfl) ?_
  refine va_get (D := (dC, dI)) (ci := 12) (v := .int 20) (C := RX12) (T := TX12) (N := 80) hx hb hts hiX12 hown hK hP 0 rfl rfl 2 (by decide) (hts (.fieldLink RX12 247 "CakePapersModel" "taped" "I") (by decide +kernel)) (fun _ h9 => h9) (by simp [hn_fs]) dX12_feed_117 ?_
  refine W.widen (k := 0) (n := 0) (Nat.le_of_ble_eq_true rfl) (Nat.le_of_ble_eq_true rfl) ?_
  exact W.iret (v := 20) hx hb hr (fun t ht hW => ⟨⟨20, (), rfl, rfl, trivial⟩, hS.F ht⟩) hS.2.2 dX12_feed_120
def u_c_X12_paper : List Cond := .code yX12_paper cX12_paper 1 (some .int) :: ([.fieldLink RX12 250 "CakePapersModel" "papers" "I", .code yX12_takeTape cX12_takeTape 2 none, .fieldLink RX12 161 "CakePapersModel" "faultKind" "I", .fieldLink RX12 16 "CakePapersModel" "faultPlace" "I", .fieldLink RX12 247 "CakePapersModel" "taped" "I", .fieldLink RX12 158 "CakePapersModel" "size" "I", .fieldLink RX12 192 "CakePapersModel" "end" "I", .methodLink RX12 253 yX12_takeTape, .instanceMethod yX12_takeTape, .selects RX12 yX12_takeTape yX12_takeTape, .initialized RX12, .fieldLink RX12 256 "CakePapersModel" "calls" "I", .fieldLink RX12 20 "CakePapersModel" "many" "[I", .code yX12_goOn cX12_goOn 3 none, .fieldLink RX12 195 "CakePapersModel" "at" "I", .code yX12_sign cX12_sign 2 (some .int), .methodLink RX12 198 yX12_sign, .instanceMethod yX12_sign, .selects RX12 yX12_sign yX12_sign, .fieldLink RX12 202 "CakePapersModel" "token" "I", .methodLink RX12 234 yX12_goOn, .instanceMethod yX12_goOn, .selects RX12 yX12_goOn yX12_goOn, .code yX12_isGood cX12_isGood 1 (some .boolean), .methodLink RX12 230 yX12_isGood, .instanceMethod yX12_isGood, .selects RX12 yX12_isGood yX12_isGood, .code yX12_copyPaper cX12_copyPaper 4 none, .methodLink RX12 262 yX12_copyPaper, .instanceMethod yX12_copyPaper, .selects RX12 yX12_copyPaper yX12_copyPaper] ++ wsX120)
theorem iX12_c_X12_paper : ∀ w ∈ wsX120, w ∈ u_c_X12_paper := fun w h => List.mem_cons_of_mem _ (List.mem_append_right _ h)
set_option maxRecDepth 20000 in
theorem g_c_X12_paper_c_X12_takeTape_0 : GoodIn u_c_X12_paper (wsV RX12 253 RX12 yX12_takeTape u_c_X12_takeTape) := goodIn_app (goodIn_of _ (by decide +kernel)) (goodIn_ca (goodIn_of (.code yX12_takeTape cX12_takeTape 2 none :: [.fieldLink RX12 161 "CakePapersModel" "faultKind" "I", .fieldLink RX12 16 "CakePapersModel" "faultPlace" "I", .fieldLink RX12 247 "CakePapersModel" "taped" "I", .fieldLink RX12 158 "CakePapersModel" "size" "I", .fieldLink RX12 192 "CakePapersModel" "end" "I"]) (by decide +kernel)) (goodIn_sub iX12_c_X12_paper zgX12))
set_option maxRecDepth 20000 in
theorem g_c_X12_paper_c_X12_goOn_1 : GoodIn u_c_X12_paper (wsV RX12 234 RX12 yX12_goOn u_c_X12_goOn) := goodIn_app (goodIn_of _ (by decide +kernel)) (goodIn_ca (goodIn_of (.code yX12_goOn cX12_goOn 3 none :: [.fieldLink RX12 192 "CakePapersModel" "end" "I", .fieldLink RX12 195 "CakePapersModel" "at" "I", .fieldLink RX12 158 "CakePapersModel" "size" "I", .code yX12_sign cX12_sign 2 (some .int), .methodLink RX12 198 yX12_sign, .instanceMethod yX12_sign, .selects RX12 yX12_sign yX12_sign, .initialized RX12, .fieldLink RX12 202 "CakePapersModel" "token" "I"]) (by decide +kernel)) (goodIn_sub iX12_c_X12_paper zgX12))
set_option maxRecDepth 20000 in
theorem g_c_X12_paper_c_X12_isGood_0_2 : GoodIn u_c_X12_paper (wsV RX12 230 RX12 yX12_isGood u_c_X12_isGood_0) := goodIn_app (goodIn_of _ (by decide +kernel)) (goodIn_ca (goodIn_of (.code yX12_isGood cX12_isGood 1 (some .boolean) :: [.fieldLink RX12 161 "CakePapersModel" "faultKind" "I"]) (by decide +kernel)) (goodIn_sub iX12_c_X12_paper zgX12))
set_option maxRecDepth 20000 in
theorem g_c_X12_paper_c_X12_copyPaper_3 : GoodIn u_c_X12_paper (wsV RX12 262 RX12 yX12_copyPaper u_c_X12_copyPaper) := goodIn_app (goodIn_of _ (by decide +kernel)) (goodIn_ca (goodIn_of (.code yX12_copyPaper cX12_copyPaper 4 none :: [.fieldLink RX12 20 "CakePapersModel" "many" "[I"]) (by decide +kernel)) (goodIn_sub iX12_c_X12_paper zgX12))
set_option maxHeartbeats 1000000 in
set_option maxRecDepth 100000 in
theorem c_X12_paper (l : Launch) (dC : Nat → ClassId) (dI : Nat → Nat → Nat) (sz : Nat) (h0 h1 : Nat) (cI : ClassId) (fs : List Value) (hn_fs : fs.length = 80) (e_fs_2 : fs[2]? = some (.int 0)) (e_fs_11 : fs[11]? = some (.ref h1)) (e_fs_20 : fs[20]? = some (.int 0)) : Met l yX12_paper u_c_X12_paper ({ frames := 2, cells := 0, slots := 0, locals := 43 }) (va_Pc [.ref h0] (fun U => U.heap.size = sz ∧ va_P (dC, dI) vwCl [(h0, .inr (12, fs)), (h1, .inl (cI, 44, .inl (fun _ => 0)))] U.heap ∧ va_K (dC, dI) vwCl [(cI, .int)] U ∧ va_D (fun _ => True) [(h0, .inr (12, fs)), (h1, .inl (cI, 44, .inl (fun _ => 0)))])) (va_Qi (fun (r : Int32) (_ : Unit) => r = 0) (fun _ _ => True) (va_A [(h0, .inr (12, fs)), (h1, .inl (cI, 44, .inl (fun _ => 0)))] sz)) 0 0 (va_A [(h0, .inr (12, fs)), (h1, .inl (cI, 44, .inl (fun _ => 0)))] sz) := by
  refine Met.ofW (cc := cX12_paper) (maxL := 1) (ret := (some .int)) (by decide) rfl ?_
  intro p e s m args below meth c s₁ B hml hv
  obtain ⟨rfl, hsz, hP, hK, hD0⟩ := hv
  have hx := B.exec
  have hb := B.bytes
  have hr := B.returns
  have hts := atoms_spec (ws := u_c_X12_paper) B.pre
  have hown : s.vm.findClass RX12 = some m.cls := findClass_of_methodNamed B.named
  have hlocks := B.notSynchronized
  have hiX12 := iX12_c_X12_paper
  subst hsz
  have hD := hD0.self (sz := s.heap.size)
  generalize hAe : va_A [(h0, .inr (12, fs)), (h1, .inl (cI, 44, .inl (fun _ => 0)))] s.heap.size = A at hD ⊢
  have hA : ∀ q : Nat, s.heap.size ≤ q → A q := fun q h => by rw [← hAe]; exact Or.inr h
  have hS : va_S A s.heap s.heap [] := va_S.rf
  obtain ⟨H, hH⟩ : ∃ H : Heap, H = s.heap := ⟨_, rfl⟩
  have hP : va_P (dC, dI) vwCl [(h0, .inr (12, fs)), (h1, .inl (cI, 44, .inl (fun _ => 0)))] H := by rw [hH]; exact hP
  have hS : va_S A s.heap H [] := by rw [hH]; exact hS
  have hl := lv_entry ([.ref h0]) (n := 1) (Nat.le_of_ble_eq_true rfl)
  rw [lg_entry_eq]
  generalize (lg_sl ([.ref h0]) ++ List.replicate (1 - (lg_sl ([.ref h0])).length) Slot.unset).toArray = ls at hl ⊢
  have hl : lv_has ls 1 [(0, .ref h0)] := hl
  suffices h9 : W p l e (headSpec u_c_X12_paper _).room s m _ below meth c H [] 0 0 _ (F0 m 0 ls []) by rw [hH] at h9; exact h9
  refine lv_aload_n hx hb dX12_paper_0 rfl (lv_at hl 0 rfl) ?_
  refine va_get (D := (dC, dI)) (ci := 12) (v := .int 0) (C := RX12) (T := TX12) (N := 80) hx hb hts hiX12 hown hK hP 0 rfl rfl 20 (by decide) (hts (.fieldLink RX12 250 "CakePapersModel" "papers" "I") (by decide +kernel)) (fun _ h9 => h9) e_fs_20 dX12_paper_1 ?_
  refine lv_bipush (v := 8) hx hb dX12_paper_4 (by decide) ?_
  refine lv_icmp_ne (tgt := 17) hx hb dX12_paper_6 (by decide) (fun c_1 => ?_) (fun c_1 => absurd c_1 (by decide))
  refine lv_aload_n hx hb dX12_paper_17 rfl (lv_at hl 0 rfl) ?_
  have hPc := hP.sub (ws' := [(h0, .inr (12, fs))]) [0] rfl
  have hDc := hD.sub (ws' := [(h0, .inr (12, fs))]) [0] (by decide) rfl
  have hKc := hK.sub (tys' := []) [] rfl
  have hFc := va_free (wc := [(h0, .inr (12, fs))]) hD hS hA [0] rfl
  refine va_callv (va_runV (As := []) (rest := []) ⟨hx, hb, hml, hown, hts⟩ (c_X12_takeTape l dC dI H.size h0 fs hn_fs e_fs_2) (cwV 0 hts g_c_X12_paper_c_X12_takeTape_0 rfl rfl rfl (by decide +kernel) ⟨Nat.le_of_ble_eq_true rfl, Nat.le_of_ble_eq_true rfl⟩) ⟨fun a U g mk q => by obtain ⟨q0, q1, qP, qK, qD⟩ := q; exact ⟨q0, q1, qP, va_K.moved (u := U) (U := U.calling g mk a) (Vm.Alike.refl U.vm) qK, qD⟩, va_recv hKc hPc (ci := 12) (q0 := 0) rfl rfl, fun U hU hW => ⟨rfl, by rw [hU], by rw [hU]; exact hPc, va_K.moved hW.alike hKc, hDc.weaken (fun _ _ _ _ => trivial)⟩⟩ rfl rfl hl.1 rfl (lv_room (Nat.le_of_ble_eq_true rfl)) dX12_paper_18 ⟨Nat.le_of_ble_eq_true rfl, Nat.le_of_ble_eq_true rfl⟩) hS (fun q _ h => hFc q h) hFc (fun u t H1 locs ht hvm hw hB hz1 hk1 hS => ?_)
  obtain ⟨hP1, hD1⟩ := hB
  rw [ht] at hP1
  obtain ⟨hP, hD⟩ := va_join (wr := [(h1, .inl (cI, 44, .inl (fun _ => 0)))]) (w1 := [(h0, .inr (12, (List.set (List.set (List.set (List.set (List.set fs 4 (.int 0)) 5 (.int (-1))) 3 (.int 0)) 2 (.int 0)) 7 (.int 0))))]) hP hD [0] [1] rfl rfl (by decide) (by decide) hk1 hFc hP1 hD1
  generalize H1 = H at hP hS ⊢
  have hP : va_P (dC, dI) vwCl [(h1, .inl (cI, 44, .inl (fun _ => 0))), (h0, .inr (12, (List.set (List.set (List.set (List.set (List.set fs 4 (.int 0)) 5 (.int (-1))) 3 (.int 0)) 2 (.int 0)) 7 (.int 0))))] H := hP
  have hD : va_D A [(h1, .inl (cI, 44, .inl (fun _ => 0))), (h0, .inr (12, (List.set (List.set (List.set (List.set (List.set fs 4 (.int 0)) 5 (.int (-1))) 3 (.int 0)) 2 (.int 0)) 7 (.int 0))))] := hD
  refine W.widen (k := 0) (n := 0) (Nat.le_of_ble_eq_true rfl) (Nat.le_of_ble_eq_true rfl) ?_
  refine lv_aload_n hx hb dX12_paper_21 rfl (lv_at hl 0 rfl) ?_
  refine lv_iconst (v := 0) hx hb dX12_paper_22 (by decide) ?_
  refine va_put (D := (dC, dI)) (ci := 12) (v := .int 0) (ty := .int) (C := RX12) (T := TX12) (N := 80) hx hb hts hiX12 tyX12 tyX12_ok nmX12 hown hK hP hD hS 1 rfl rfl 21 (by decide) (hts (.fieldLink RX12 256 "CakePapersModel" "calls" "I") (by decide +kernel)) (fun _ h9 => h9) rfl (by decide +kernel) rfl rfl (by simp [hn_fs]) dX12_paper_23 (fun H locs hP hD hS => ?_)
  have hP : va_P (dC, dI) vwCl [(h1, .inl (cI, 44, .inl (fun _ => 0))), (h0, .inr (12, (List.set (List.set (List.set (List.set (List.set (List.set fs 4 (.int 0)) 5 (.int (-1))) 3 (.int 0)) 2 (.int 0)) 7 (.int 0)) 21 (.int 0))))] H := hP
  have hD : va_D A [(h1, .inl (cI, 44, .inl (fun _ => 0))), (h0, .inr (12, (List.set (List.set (List.set (List.set (List.set (List.set fs 4 (.int 0)) 5 (.int (-1))) 3 (.int 0)) 2 (.int 0)) 7 (.int 0)) 21 (.int 0))))] := hD
  refine lv_aload_n hx hb dX12_paper_26 rfl (lv_at hl 0 rfl) ?_
  refine va_get (D := (dC, dI)) (ci := 12) (v := .ref h1) (C := RX12) (T := TX12) (N := 80) hx hb hts hiX12 hown hK hP 1 rfl rfl 11 (by decide) (hts (.fieldLink RX12 20 "CakePapersModel" "many" "[I") (by decide +kernel)) (fun _ h9 => h9) (by simp [e_fs_11]) dX12_paper_27 ?_
  refine lv_bipush (v := 8) hx hb dX12_paper_30 (by decide) ?_
  refine lv_iconst (v := 0) hx hb dX12_paper_32 (by decide) ?_
  refine va_iast hx hb hK hP hD hS 0 0 rfl rfl (zz_in (by decide)) dX12_paper_33 (fun H locs hP hD hS => ?_)
  have hP : va_P (dC, dI) vwCl [(h1, .inl (cI, 44, .inl (upd (fun _ => 0) 8 0))), (h0, .inr (12, (List.set (List.set (List.set (List.set (List.set (List.set fs 4 (.int 0)) 5 (.int (-1))) 3 (.int 0)) 2 (.int 0)) 7 (.int 0)) 21 (.int 0))))] H := hP
  have hD : va_D A [(h1, .inl (cI, 44, .inl (upd (fun _ => 0) 8 0))), (h0, .inr (12, (List.set (List.set (List.set (List.set (List.set (List.set fs 4 (.int 0)) 5 (.int (-1))) 3 (.int 0)) 2 (.int 0)) 7 (.int 0)) 21 (.int 0))))] := hD
  refine lv_aload_n hx hb dX12_paper_34 rfl (lv_at hl 0 rfl) ?_
  have hPc := hP.sub (ws' := [(h0, .inr (12, (List.set (List.set (List.set (List.set (List.set (List.set fs 4 (.int 0)) 5 (.int (-1))) 3 (.int 0)) 2 (.int 0)) 7 (.int 0)) 21 (.int 0))))]) [1] rfl
  have hDc := hD.sub (ws' := [(h0, .inr (12, (List.set (List.set (List.set (List.set (List.set (List.set fs 4 (.int 0)) 5 (.int (-1))) 3 (.int 0)) 2 (.int 0)) 7 (.int 0)) 21 (.int 0))))]) [1] (by decide) rfl
  have hKc := hK.sub (tys' := []) [] rfl
  have hFc := va_free (wc := [(h0, .inr (12, (List.set (List.set (List.set (List.set (List.set (List.set fs 4 (.int 0)) 5 (.int (-1))) 3 (.int 0)) 2 (.int 0)) 7 (.int 0)) 21 (.int 0))))]) hD hS hA [1] rfl
  refine va_callv (va_runV (As := []) (rest := []) ⟨hx, hb, hml, hown, hts⟩ (c_X12_goOn l dC dI H.size h0 (List.set (List.set (List.set (List.set (List.set (List.set fs 4 (.int 0)) 5 (.int (-1))) 3 (.int 0)) 2 (.int 0)) 7 (.int 0)) 21 (.int 0)) (by simp [hn_fs]) (by simp [hn_fs]) (by simp [hn_fs])) (cwV 0 hts g_c_X12_paper_c_X12_goOn_1 rfl rfl rfl (by decide +kernel) ⟨Nat.le_of_ble_eq_true rfl, Nat.le_of_ble_eq_true rfl⟩) ⟨fun a U g mk q => by obtain ⟨q0, q1, qP, qK, qD⟩ := q; exact ⟨q0, q1, qP, va_K.moved (u := U) (U := U.calling g mk a) (Vm.Alike.refl U.vm) qK, qD⟩, va_recv hKc hPc (ci := 12) (q0 := 0) rfl rfl, fun U hU hW => ⟨rfl, by rw [hU], by rw [hU]; exact hPc, va_K.moved hW.alike hKc, hDc.weaken (fun _ _ _ _ => trivial)⟩⟩ rfl rfl hl.1 rfl (lv_room (Nat.le_of_ble_eq_true rfl)) dX12_paper_35 ⟨Nat.le_of_ble_eq_true rfl, Nat.le_of_ble_eq_true rfl⟩) hS (fun q _ h => hFc q h) hFc (fun u t H1 locs ht hvm hw hB hz1 hk1 hS => ?_)
  obtain ⟨hP1, hD1⟩ := hB
  rw [ht] at hP1
  obtain ⟨hP, hD⟩ := va_join (wr := [(h1, .inl (cI, 44, .inl (upd (fun _ => 0) 8 0)))]) (w1 := [(h0, .inr (12, (List.set (List.set (List.set (List.set (List.set (List.set (List.set (List.set (List.set (List.set (List.set fs 4 (.int 0)) 5 (.int (-1))) 3 (.int 0)) 2 (.int 0)) 7 (.int 0)) 21 (.int 0)) 6 (.int 0)) 7 (.int 1)) 8 (.int 0)) 6 (.int 0)) 7 (.int 0))))]) hP hD [1] [0] rfl rfl (by decide) (by decide) hk1 hFc hP1 hD1
  generalize H1 = H at hP hS ⊢
  have hP : va_P (dC, dI) vwCl [(h1, .inl (cI, 44, .inl (upd (fun _ => 0) 8 0))), (h0, .inr (12, (List.set (List.set (List.set (List.set (List.set (List.set (List.set (List.set (List.set (List.set (List.set fs 4 (.int 0)) 5 (.int (-1))) 3 (.int 0)) 2 (.int 0)) 7 (.int 0)) 21 (.int 0)) 6 (.int 0)) 7 (.int 1)) 8 (.int 0)) 6 (.int 0)) 7 (.int 0))))] H := hP
  have hD : va_D A [(h1, .inl (cI, 44, .inl (upd (fun _ => 0) 8 0))), (h0, .inr (12, (List.set (List.set (List.set (List.set (List.set (List.set (List.set (List.set (List.set (List.set (List.set fs 4 (.int 0)) 5 (.int (-1))) 3 (.int 0)) 2 (.int 0)) 7 (.int 0)) 21 (.int 0)) 6 (.int 0)) 7 (.int 1)) 8 (.int 0)) 6 (.int 0)) 7 (.int 0))))] := hD
  refine W.widen (k := 0) (n := 0) (Nat.le_of_ble_eq_true rfl) (Nat.le_of_ble_eq_true rfl) ?_
  refine lv_aload_n hx hb dX12_paper_38 rfl (lv_at hl 0 rfl) ?_
  have hPc := hP.sub (ws' := [(h0, .inr (12, (List.set (List.set (List.set (List.set (List.set (List.set (List.set (List.set (List.set (List.set (List.set fs 4 (.int 0)) 5 (.int (-1))) 3 (.int 0)) 2 (.int 0)) 7 (.int 0)) 21 (.int 0)) 6 (.int 0)) 7 (.int 1)) 8 (.int 0)) 6 (.int 0)) 7 (.int 0))))]) [1] rfl
  have hDc := hD.sub (ws' := [(h0, .inr (12, (List.set (List.set (List.set (List.set (List.set (List.set (List.set (List.set (List.set (List.set (List.set fs 4 (.int 0)) 5 (.int (-1))) 3 (.int 0)) 2 (.int 0)) 7 (.int 0)) 21 (.int 0)) 6 (.int 0)) 7 (.int 1)) 8 (.int 0)) 6 (.int 0)) 7 (.int 0))))]) [1] (by decide) rfl
  have hKc := hK.sub (tys' := []) [] rfl
  have hFc := va_free (wc := [(h0, .inr (12, (List.set (List.set (List.set (List.set (List.set (List.set (List.set (List.set (List.set (List.set (List.set fs 4 (.int 0)) 5 (.int (-1))) 3 (.int 0)) 2 (.int 0)) 7 (.int 0)) 21 (.int 0)) 6 (.int 0)) 7 (.int 1)) 8 (.int 0)) 6 (.int 0)) 7 (.int 0))))]) hD hS hA [1] rfl
  refine va_calli (va_runV (As := []) (rest := []) ⟨hx, hb, hml, hown, hts⟩ (c_X12_isGood_0 l dC dI H.size h0 (List.set (List.set (List.set (List.set (List.set (List.set (List.set (List.set (List.set (List.set (List.set fs 4 (.int 0)) 5 (.int (-1))) 3 (.int 0)) 2 (.int 0)) 7 (.int 0)) 21 (.int 0)) 6 (.int 0)) 7 (.int 1)) 8 (.int 0)) 6 (.int 0)) 7 (.int 0)) (by simp [hn_fs]) (by simp [hn_fs])) (cwV 0 hts g_c_X12_paper_c_X12_isGood_0_2 rfl rfl rfl (by decide +kernel) ⟨Nat.le_of_ble_eq_true rfl, Nat.le_of_ble_eq_true rfl⟩) ⟨fun a U g mk q => by obtain ⟨q0, q1, qP, qK, qD⟩ := q; exact ⟨q0, q1, qP, va_K.moved (u := U) (U := U.calling g mk a) (Vm.Alike.refl U.vm) qK, qD⟩, va_recv hKc hPc (ci := 12) (q0 := 0) rfl rfl, fun U hU hW => ⟨rfl, by rw [hU], by rw [hU]; exact hPc, va_K.moved hW.alike hKc, hDc.weaken (fun _ _ _ _ => trivial)⟩⟩ rfl rfl hl.1 rfl (lv_room (Nat.le_of_ble_eq_true rfl)) dX12_paper_39 ⟨Nat.le_of_ble_eq_true rfl, Nat.le_of_ble_eq_true rfl⟩) hS (fun q _ h => hFc q h) hFc (fun r_4 u t H1 locs ht hvm hw hB hz1 hk1 hS => ?_)
  obtain ⟨hP1, hD1⟩ := hB
  rw [ht] at hP1
  obtain ⟨hP, hD⟩ := va_join (wr := [(h1, .inl (cI, 44, .inl (upd (fun _ => 0) 8 0)))]) (w1 := [(h0, .inr (12, (List.set (List.set (List.set (List.set (List.set (List.set (List.set (List.set (List.set (List.set (List.set fs 4 (.int 0)) 5 (.int (-1))) 3 (.int 0)) 2 (.int 0)) 7 (.int 0)) 21 (.int 0)) 6 (.int 0)) 7 (.int 1)) 8 (.int 0)) 6 (.int 0)) 7 (.int 0))))]) hP hD [1] [0] rfl rfl (by decide) (by decide) hk1 hFc hP1 hD1
  generalize H1 = H at hP hS ⊢
  have hP : va_P (dC, dI) vwCl [(h1, .inl (cI, 44, .inl (upd (fun _ => 0) 8 0))), (h0, .inr (12, (List.set (List.set (List.set (List.set (List.set (List.set (List.set (List.set (List.set (List.set (List.set fs 4 (.int 0)) 5 (.int (-1))) 3 (.int 0)) 2 (.int 0)) 7 (.int 0)) 21 (.int 0)) 6 (.int 0)) 7 (.int 1)) 8 (.int 0)) 6 (.int 0)) 7 (.int 0))))] H := hP
  have hD : va_D A [(h1, .inl (cI, 44, .inl (upd (fun _ => 0) 8 0))), (h0, .inr (12, (List.set (List.set (List.set (List.set (List.set (List.set (List.set (List.set (List.set (List.set (List.set fs 4 (.int 0)) 5 (.int (-1))) 3 (.int 0)) 2 (.int 0)) 7 (.int 0)) 21 (.int 0)) 6 (.int 0)) 7 (.int 1)) 8 (.int 0)) 6 (.int 0)) 7 (.int 0))))] := hD
  refine W.widen (k := 0) (n := 0) (Nat.le_of_ble_eq_true rfl) (Nat.le_of_ble_eq_true rfl) ?_
  refine zz_ci (y := 1) hw ?_
  refine lv_if_eq (tgt := 59) hx hb dX12_paper_42 (by decide) (fun c_5 => absurd c_5 (by decide)) (fun c_5 => ?_)
  refine lv_aload_n hx hb dX12_paper_45 rfl (lv_at hl 0 rfl) ?_
  refine va_get (D := (dC, dI)) (ci := 12) (v := .int 0) (C := RX12) (T := TX12) (N := 80) hx hb hts hiX12 hown hK hP 1 rfl rfl 8 (by decide) (hts (.fieldLink RX12 202 "CakePapersModel" "token" "I") (by decide +kernel)) (fun _ h9 => h9) (by simp [hn_fs]) dX12_paper_46 ?_
  refine lv_if_eq (tgt := 59) hx hb dX12_paper_49 (by decide) (fun c_6 => ?_) (fun c_6 => absurd c_6 (by decide))
  refine lv_aload_n hx hb dX12_paper_59 rfl (lv_at hl 0 rfl) ?_
  have hPc := hP.sub (ws' := [(h0, .inr (12, (List.set (List.set (List.set (List.set (List.set (List.set (List.set (List.set (List.set (List.set (List.set fs 4 (.int 0)) 5 (.int (-1))) 3 (.int 0)) 2 (.int 0)) 7 (.int 0)) 21 (.int 0)) 6 (.int 0)) 7 (.int 1)) 8 (.int 0)) 6 (.int 0)) 7 (.int 0))))]) [1] rfl
  have hDc := hD.sub (ws' := [(h0, .inr (12, (List.set (List.set (List.set (List.set (List.set (List.set (List.set (List.set (List.set (List.set (List.set fs 4 (.int 0)) 5 (.int (-1))) 3 (.int 0)) 2 (.int 0)) 7 (.int 0)) 21 (.int 0)) 6 (.int 0)) 7 (.int 1)) 8 (.int 0)) 6 (.int 0)) 7 (.int 0))))]) [1] (by decide) rfl
  have hKc := hK.sub (tys' := []) [] rfl
  have hFc := va_free (wc := [(h0, .inr (12, (List.set (List.set (List.set (List.set (List.set (List.set (List.set (List.set (List.set (List.set (List.set fs 4 (.int 0)) 5 (.int (-1))) 3 (.int 0)) 2 (.int 0)) 7 (.int 0)) 21 (.int 0)) 6 (.int 0)) 7 (.int 1)) 8 (.int 0)) 6 (.int 0)) 7 (.int 0))))]) hD hS hA [1] rfl
  refine va_calli (va_runV (As := []) (rest := []) ⟨hx, hb, hml, hown, hts⟩ (c_X12_isGood_0 l dC dI H.size h0 (List.set (List.set (List.set (List.set (List.set (List.set (List.set (List.set (List.set (List.set (List.set fs 4 (.int 0)) 5 (.int (-1))) 3 (.int 0)) 2 (.int 0)) 7 (.int 0)) 21 (.int 0)) 6 (.int 0)) 7 (.int 1)) 8 (.int 0)) 6 (.int 0)) 7 (.int 0)) (by simp [hn_fs]) (by simp [hn_fs])) (cwV 0 hts g_c_X12_paper_c_X12_isGood_0_2 rfl rfl rfl (by decide +kernel) ⟨Nat.le_of_ble_eq_true rfl, Nat.le_of_ble_eq_true rfl⟩) ⟨fun a U g mk q => by obtain ⟨q0, q1, qP, qK, qD⟩ := q; exact ⟨q0, q1, qP, va_K.moved (u := U) (U := U.calling g mk a) (Vm.Alike.refl U.vm) qK, qD⟩, va_recv hKc hPc (ci := 12) (q0 := 0) rfl rfl, fun U hU hW => ⟨rfl, by rw [hU], by rw [hU]; exact hPc, va_K.moved hW.alike hKc, hDc.weaken (fun _ _ _ _ => trivial)⟩⟩ rfl rfl hl.1 rfl (lv_room (Nat.le_of_ble_eq_true rfl)) dX12_paper_60 ⟨Nat.le_of_ble_eq_true rfl, Nat.le_of_ble_eq_true rfl⟩) hS (fun q _ h => hFc q h) hFc (fun r_7 u t H1 locs ht hvm hw hB hz1 hk1 hS => ?_)
  obtain ⟨hP1, hD1⟩ := hB
  rw [ht] at hP1
  obtain ⟨hP, hD⟩ := va_join (wr := [(h1, .inl (cI, 44, .inl (upd (fun _ => 0) 8 0)))]) (w1 := [(h0, .inr (12, (List.set (List.set (List.set (List.set (List.set (List.set (List.set (List.set (List.set (List.set (List.set fs 4 (.int 0)) 5 (.int (-1))) 3 (.int 0)) 2 (.int 0)) 7 (.int 0)) 21 (.int 0)) 6 (.int 0)) 7 (.int 1)) 8 (.int 0)) 6 (.int 0)) 7 (.int 0))))]) hP hD [1] [0] rfl rfl (by decide) (by decide) hk1 hFc hP1 hD1
  generalize H1 = H at hP hS ⊢
  have hP : va_P (dC, dI) vwCl [(h1, .inl (cI, 44, .inl (upd (fun _ => 0) 8 0))), (h0, .inr (12, (List.set (List.set (List.set (List.set (List.set (List.set (List.set (List.set (List.set (List.set (List.set fs 4 (.int 0)) 5 (.int (-1))) 3 (.int 0)) 2 (.int 0)) 7 (.int 0)) 21 (.int 0)) 6 (.int 0)) 7 (.int 1)) 8 (.int 0)) 6 (.int 0)) 7 (.int 0))))] H := hP
  have hD : va_D A [(h1, .inl (cI, 44, .inl (upd (fun _ => 0) 8 0))), (h0, .inr (12, (List.set (List.set (List.set (List.set (List.set (List.set (List.set (List.set (List.set (List.set (List.set fs 4 (.int 0)) 5 (.int (-1))) 3 (.int 0)) 2 (.int 0)) 7 (.int 0)) 21 (.int 0)) 6 (.int 0)) 7 (.int 1)) 8 (.int 0)) 6 (.int 0)) 7 (.int 0))))] := hD
  refine W.widen (k := 0) (n := 0) (Nat.le_of_ble_eq_true rfl) (Nat.le_of_ble_eq_true rfl) ?_
  refine zz_ci (y := 1) hw ?_
  refine lv_if_ne (tgt := 68) hx hb dX12_paper_63 (by decide) (fun c_8 => ?_) (fun c_8 => absurd c_8 (by decide))
  refine lv_aload_n hx hb dX12_paper_68 rfl (lv_at hl 0 rfl) ?_
  refine lv_bipush (v := 8) hx hb dX12_paper_69 (by decide) ?_
  refine lv_aload_n hx hb dX12_paper_71 rfl (lv_at hl 0 rfl) ?_
  refine va_get (D := (dC, dI)) (ci := 12) (v := .int 0) (C := RX12) (T := TX12) (N := 80) hx hb hts hiX12 hown hK hP 1 rfl rfl 20 (by decide) (hts (.fieldLink RX12 250 "CakePapersModel" "papers" "I") (by decide +kernel)) (fun _ h9 => h9) (by simp [e_fs_20]) dX12_paper_72 ?_
  have hPc := hP.sub (ws' := [(h0, .inr (12, (List.set (List.set (List.set (List.set (List.set (List.set (List.set (List.set (List.set (List.set (List.set fs 4 (.int 0)) 5 (.int (-1))) 3 (.int 0)) 2 (.int 0)) 7 (.int 0)) 21 (.int 0)) 6 (.int 0)) 7 (.int 1)) 8 (.int 0)) 6 (.int 0)) 7 (.int 0)))), (h1, .inl (cI, 44, .inl (upd (fun _ => 0) 8 0)))]) [1, 0] rfl
  have hDc := hD.sub (ws' := [(h0, .inr (12, (List.set (List.set (List.set (List.set (List.set (List.set (List.set (List.set (List.set (List.set (List.set fs 4 (.int 0)) 5 (.int (-1))) 3 (.int 0)) 2 (.int 0)) 7 (.int 0)) 21 (.int 0)) 6 (.int 0)) 7 (.int 1)) 8 (.int 0)) 6 (.int 0)) 7 (.int 0)))), (h1, .inl (cI, 44, .inl (upd (fun _ => 0) 8 0)))]) [1, 0] (by decide) rfl
  have hKc := hK.sub (tys' := [(cI, .int)]) [0] rfl
  have hFc := va_free (wc := [(h0, .inr (12, (List.set (List.set (List.set (List.set (List.set (List.set (List.set (List.set (List.set (List.set (List.set fs 4 (.int 0)) 5 (.int (-1))) 3 (.int 0)) 2 (.int 0)) 7 (.int 0)) 21 (.int 0)) 6 (.int 0)) 7 (.int 1)) 8 (.int 0)) 6 (.int 0)) 7 (.int 0)))), (h1, .inl (cI, 44, .inl (upd (fun _ => 0) 8 0)))]) hD hS hA [1, 0] rfl
  refine va_callv (va_runV (As := [.int 8, .int 0]) (rest := []) ⟨hx, hb, hml, hown, hts⟩ (c_X12_copyPaper l dC dI H.size h0 h1 cI (List.set (List.set (List.set (List.set (List.set (List.set (List.set (List.set (List.set (List.set (List.set fs 4 (.int 0)) 5 (.int (-1))) 3 (.int 0)) 2 (.int 0)) 7 (.int 0)) 21 (.int 0)) 6 (.int 0)) 7 (.int 1)) 8 (.int 0)) 6 (.int 0)) 7 (.int 0)) (by simp [hn_fs]) (by simp [e_fs_11])) (cwV 2 hts g_c_X12_paper_c_X12_copyPaper_3 rfl rfl rfl (by decide +kernel) ⟨Nat.le_of_ble_eq_true rfl, Nat.le_of_ble_eq_true rfl⟩) ⟨fun a U g mk q => by obtain ⟨q0, q1, qP, qK, qD⟩ := q; exact ⟨q0, q1, qP, va_K.moved (u := U) (U := U.calling g mk a) (Vm.Alike.refl U.vm) qK, qD⟩, va_recv hKc hPc (ci := 12) (q0 := 0) rfl rfl, fun U hU hW => ⟨rfl, by rw [hU], by rw [hU]; exact hPc, va_K.moved hW.alike hKc, hDc.weaken (fun _ _ _ _ => trivial)⟩⟩ rfl rfl hl.1 rfl (lv_room (Nat.le_of_ble_eq_true rfl)) dX12_paper_75 ⟨Nat.le_of_ble_eq_true rfl, Nat.le_of_ble_eq_true rfl⟩) hS (fun q _ h => hFc q h) hFc (fun u t H1 locs ht hvm hw hB hz1 hk1 hS => ?_)
  obtain ⟨hP1, hD1⟩ := hB
  rw [ht] at hP1
  obtain ⟨hP, hD⟩ := va_join (wr := []) (w1 := [(h0, .inr (12, (List.set (List.set (List.set (List.set (List.set (List.set (List.set (List.set (List.set (List.set (List.set fs 4 (.int 0)) 5 (.int (-1))) 3 (.int 0)) 2 (.int 0)) 7 (.int 0)) 21 (.int 0)) 6 (.int 0)) 7 (.int 1)) 8 (.int 0)) 6 (.int 0)) 7 (.int 0)))), (h1, .inl (cI, 44, .inl (upd (upd (fun _ => 0) 8 0) 0 0)))]) hP hD [1, 0] [] rfl rfl (by decide) (by decide) hk1 hFc hP1 hD1
  generalize H1 = H at hP hS ⊢
  have hP : va_P (dC, dI) vwCl [(h0, .inr (12, (List.set (List.set (List.set (List.set (List.set (List.set (List.set (List.set (List.set (List.set (List.set fs 4 (.int 0)) 5 (.int (-1))) 3 (.int 0)) 2 (.int 0)) 7 (.int 0)) 21 (.int 0)) 6 (.int 0)) 7 (.int 1)) 8 (.int 0)) 6 (.int 0)) 7 (.int 0)))), (h1, .inl (cI, 44, .inl (upd (upd (fun _ => 0) 8 0) 0 0)))] H := hP
  have hD : va_D A [(h0, .inr (12, (List.set (List.set (List.set (List.set (List.set (List.set (List.set (List.set (List.set (List.set (List.set fs 4 (.int 0)) 5 (.int (-1))) 3 (.int 0)) 2 (.int 0)) 7 (.int 0)) 21 (.int 0)) 6 (.int 0)) 7 (.int 1)) 8 (.int 0)) 6 (.int 0)) 7 (.int 0)))), (h1, .inl (cI, 44, .inl (upd (upd (fun _ => 0) 8 0) 0 0)))] := hD
  refine W.widen (k := 0) (n := 0) (Nat.le_of_ble_eq_true rfl) (Nat.le_of_ble_eq_true rfl) ?_
  refine lv_aload_n hx hb dX12_paper_78 rfl (lv_at hl 0 rfl) ?_
  refine lv_dup hx hb dX12_paper_79 rfl ?_
  refine va_get (D := (dC, dI)) (ci := 12) (v := .int 0) (C := RX12) (T := TX12) (N := 80) hx hb hts hiX12 hown hK hP 0 rfl rfl 20 (by decide) (hts (.fieldLink RX12 250 "CakePapersModel" "papers" "I") (by decide +kernel)) (fun _ h9 => h9) (by simp [e_fs_20]) dX12_paper_80 ?_
  refine lv_iconst (v := 1) hx hb dX12_paper_83 (by decide) ?_
  refine lv_iadd hx hb dX12_paper_84 ?_
  refine zz_ci (y := 1) (by decide) ?_
  refine va_put (D := (dC, dI)) (ci := 12) (v := .int 1) (ty := .int) (C := RX12) (T := TX12) (N := 80) hx hb hts hiX12 tyX12 tyX12_ok nmX12 hown hK hP hD hS 0 rfl rfl 20 (by decide) (hts (.fieldLink RX12 250 "CakePapersModel" "papers" "I") (by decide +kernel)) (fun _ h9 => h9) rfl (by decide +kernel) rfl rfl (by simp [hn_fs]) dX12_paper_85 (fun H locs hP hD hS => ?_)
  have hP : va_P (dC, dI) vwCl [(h0, .inr (12, (List.set (List.set (List.set (List.set (List.set (List.set (List.set (List.set (List.set (List.set (List.set (List.set fs 4 (.int 0)) 5 (.int (-1))) 3 (.int 0)) 2 (.int 0)) 7 (.int 0)) 21 (.int 0)) 6 (.int 0)) 7 (.int 1)) 8 (.int 0)) 6 (.int 0)) 7 (.int 0)) 20 (.int 1)))), (h1, .inl (cI, 44, .inl (upd (upd (fun _ => 0) 8 0) 0 0)))] H := hP
  have hD : va_D A [(h0, .inr (12, (List.set (List.set (List.set (List.set (List.set (List.set (List.set (List.set (List.set (List.set (List.set (List.set fs 4 (.int 0)) 5 (.int (-1))) 3 (.int 0)) 2 (.int 0)) 7 (.int 0)) 21 (.int 0)) 6 (.int 0)) 7 (.int 1)) 8 (.int 0)) 6 (.int 0)) 7 (.int 0)) 20 (.int 1)))), (h1, .inl (cI, 44, .inl (upd (upd (fun _ => 0) 8 0) 0 0)))] := hD
  refine lv_aload_n hx hb dX12_paper_88 rfl (lv_at hl 0 rfl) ?_
  refine va_get (D := (dC, dI)) (ci := 12) (v := .int 1) (C := RX12) (T := TX12) (N := 80) hx hb hts hiX12 hown hK hP 0 rfl rfl 20 (by decide) (hts (.fieldLink RX12 250 "CakePapersModel" "papers" "I") (by decide +kernel)) (fun _ h9 => h9) (by simp [hn_fs]) dX12_paper_89 ?_
  refine lv_iconst (v := 1) hx hb dX12_paper_92 (by decide) ?_
  refine lv_isub hx hb dX12_paper_93 ?_
  refine zz_ci (y := 0) (by decide) ?_
  refine W.widen (k := 0) (n := 0) (Nat.le_of_ble_eq_true rfl) (Nat.le_of_ble_eq_true rfl) ?_
  exact W.iret (v := 0) hx hb hr (fun t ht hW => ⟨⟨0, (), rfl, rfl, trivial⟩, hS.F ht⟩) hS.2.2 dX12_paper_94
def u_c_X12_want : List Cond := .code yX12_want cX12_want 1 (some .int) :: ([.fieldLink RX12 247 "CakePapersModel" "taped" "I", .code yX12_takeTape cX12_takeTape 2 none, .fieldLink RX12 161 "CakePapersModel" "faultKind" "I", .fieldLink RX12 16 "CakePapersModel" "faultPlace" "I", .fieldLink RX12 158 "CakePapersModel" "size" "I", .fieldLink RX12 192 "CakePapersModel" "end" "I", .methodLink RX12 253 yX12_takeTape, .instanceMethod yX12_takeTape, .selects RX12 yX12_takeTape yX12_takeTape, .initialized RX12, .fieldLink RX12 553 "CakePapersModel" "wantBank" "I", .fieldLink RX12 556 "CakePapersModel" "wb" "I", .fieldLink RX12 128 "CakePapersModel" "codes" "[I", .fieldLink RX12 131 "CakePapersModel" "unitsOf" "[I", .code yX12_goOn cX12_goOn 3 none, .fieldLink RX12 195 "CakePapersModel" "at" "I", .code yX12_sign cX12_sign 2 (some .int), .methodLink RX12 198 yX12_sign, .instanceMethod yX12_sign, .selects RX12 yX12_sign yX12_sign, .fieldLink RX12 202 "CakePapersModel" "token" "I", .methodLink RX12 234 yX12_goOn, .instanceMethod yX12_goOn, .selects RX12 yX12_goOn yX12_goOn, .constantLong RX12 176 2002873972, .code yX12_isWord cX12_isWord 3 (some .boolean), .methodLink RX12 240 yX12_isWord, .instanceMethod yX12_isWord, .selects RX12 yX12_isWord yX12_isWord, .code yX12_must cX12_must 2 none, .code yX12_isGood cX12_isGood 1 (some .boolean), .methodLink RX12 230 yX12_isGood, .instanceMethod yX12_isGood, .selects RX12 yX12_isGood yX12_isGood, .code yX12_misplaced cX12_misplaced 1 none, .code yX12_fails cX12_fails 3 none, .methodLink RX12 226 yX12_fails, .instanceMethod yX12_fails, .selects RX12 yX12_fails yX12_fails, .methodLink RX12 237 yX12_misplaced, .instanceMethod yX12_misplaced, .selects RX12 yX12_misplaced yX12_misplaced, .methodLink RX12 243 yX12_must, .instanceMethod yX12_must, .selects RX12 yX12_must yX12_must, .code yX12_is cX12_is 2 (some .boolean), .methodLink RX12 271 yX12_is, .instanceMethod yX12_is, .selects RX12 yX12_is yX12_is] ++ wsX120)
theorem iX12_c_X12_want : ∀ w ∈ wsX120, w ∈ u_c_X12_want := fun w h => List.mem_cons_of_mem _ (List.mem_append_right _ h)
set_option maxRecDepth 20000 in
theorem g_c_X12_want_c_X12_takeTape_0 : GoodIn u_c_X12_want (wsV RX12 253 RX12 yX12_takeTape u_c_X12_takeTape) := goodIn_app (goodIn_of _ (by decide +kernel)) (goodIn_ca (goodIn_of (.code yX12_takeTape cX12_takeTape 2 none :: [.fieldLink RX12 161 "CakePapersModel" "faultKind" "I", .fieldLink RX12 16 "CakePapersModel" "faultPlace" "I", .fieldLink RX12 247 "CakePapersModel" "taped" "I", .fieldLink RX12 158 "CakePapersModel" "size" "I", .fieldLink RX12 192 "CakePapersModel" "end" "I"]) (by decide +kernel)) (goodIn_sub iX12_c_X12_want zgX12))
set_option maxRecDepth 20000 in
theorem g_c_X12_want_c_X12_goOn_1 : GoodIn u_c_X12_want (wsV RX12 234 RX12 yX12_goOn u_c_X12_goOn) := goodIn_app (goodIn_of _ (by decide +kernel)) (goodIn_ca (goodIn_of (.code yX12_goOn cX12_goOn 3 none :: [.fieldLink RX12 192 "CakePapersModel" "end" "I", .fieldLink RX12 195 "CakePapersModel" "at" "I", .fieldLink RX12 158 "CakePapersModel" "size" "I", .code yX12_sign cX12_sign 2 (some .int), .methodLink RX12 198 yX12_sign, .instanceMethod yX12_sign, .selects RX12 yX12_sign yX12_sign, .initialized RX12, .fieldLink RX12 202 "CakePapersModel" "token" "I"]) (by decide +kernel)) (goodIn_sub iX12_c_X12_want zgX12))
set_option maxRecDepth 20000 in
theorem g_c_X12_want_c_X12_isWord_2 : GoodIn u_c_X12_want (wsV RX12 240 RX12 yX12_isWord u_c_X12_isWord) := goodIn_app (goodIn_of _ (by decide +kernel)) (goodIn_ca (goodIn_of (.code yX12_isWord cX12_isWord 3 (some .boolean) :: [.fieldLink RX12 202 "CakePapersModel" "token" "I"]) (by decide +kernel)) (goodIn_sub iX12_c_X12_want zgX12))
set_option maxRecDepth 20000 in
theorem g_c_X12_want_c_X12_must_0_3 : GoodIn u_c_X12_want (wsV RX12 243 RX12 yX12_must u_c_X12_must_0) := goodIn_app (goodIn_of _ (by decide +kernel)) (goodIn_ca (goodIn_of (.code yX12_must cX12_must 2 none :: [.code yX12_isGood cX12_isGood 1 (some .boolean), .fieldLink RX12 161 "CakePapersModel" "faultKind" "I", .methodLink RX12 230 yX12_isGood, .instanceMethod yX12_isGood, .selects RX12 yX12_isGood yX12_isGood, .initialized RX12, .code yX12_misplaced cX12_misplaced 1 none, .fieldLink RX12 202 "CakePapersModel" "token" "I", .fieldLink RX12 195 "CakePapersModel" "at" "I", .code yX12_fails cX12_fails 3 none, .fieldLink RX12 16 "CakePapersModel" "faultPlace" "I", .methodLink RX12 226 yX12_fails, .instanceMethod yX12_fails, .selects RX12 yX12_fails yX12_fails, .methodLink RX12 237 yX12_misplaced, .instanceMethod yX12_misplaced, .selects RX12 yX12_misplaced yX12_misplaced]) (by decide +kernel)) (goodIn_sub iX12_c_X12_want zgX12))
set_option maxRecDepth 20000 in
theorem g_c_X12_want_c_X12_isGood_2_4 : GoodIn u_c_X12_want (wsV RX12 230 RX12 yX12_isGood u_c_X12_isGood_2) := goodIn_app (goodIn_of _ (by decide +kernel)) (goodIn_ca (goodIn_of (.code yX12_isGood cX12_isGood 1 (some .boolean) :: [.fieldLink RX12 161 "CakePapersModel" "faultKind" "I"]) (by decide +kernel)) (goodIn_sub iX12_c_X12_want zgX12))
set_option maxRecDepth 20000 in
theorem g_c_X12_want_c_X12_is_5 : GoodIn u_c_X12_want (wsV RX12 271 RX12 yX12_is u_c_X12_is) := goodIn_app (goodIn_of _ (by decide +kernel)) (goodIn_ca (goodIn_of (.code yX12_is cX12_is 2 (some .boolean) :: [.fieldLink RX12 202 "CakePapersModel" "token" "I"]) (by decide +kernel)) (goodIn_sub iX12_c_X12_want zgX12))
set_option maxRecDepth 20000 in
theorem g_c_X12_want_c_X12_must_2_6 : GoodIn u_c_X12_want (wsV RX12 243 RX12 yX12_must u_c_X12_must_2) := goodIn_app (goodIn_of _ (by decide +kernel)) (goodIn_ca (goodIn_of (.code yX12_must cX12_must 2 none :: [.code yX12_isGood cX12_isGood 1 (some .boolean), .fieldLink RX12 161 "CakePapersModel" "faultKind" "I", .methodLink RX12 230 yX12_isGood, .instanceMethod yX12_isGood, .selects RX12 yX12_isGood yX12_isGood, .initialized RX12]) (by decide +kernel)) (goodIn_sub iX12_c_X12_want zgX12))
set_option maxHeartbeats 1000000 in
set_option maxRecDepth 100000 in
theorem c_X12_want (l : Launch) (dC : Nat → ClassId) (dI : Nat → Nat → Nat) (sz : Nat) (h0 h1 h2 : Nat) (cI cJ : ClassId) (f : Nat → Int32) (g : Nat → Int32) (fs : List Value) (hn_fs : fs.length = 80) (e_fs_2 : fs[2]? = some (.int 0)) (e_fs_66 : fs[66]? = some (.ref h1)) (e_fs_67 : fs[67]? = some (.ref h2)) (e_fs_72 : fs[72]? = some (.int 0)) : Met l yX12_want u_c_X12_want ({ frames := 3, cells := 0, slots := 0, locals := 63 }) (va_Pc [.ref h0] (fun U => U.heap.size = sz ∧ va_P (dC, dI) vwCl [(h0, .inr (12, fs)), (h1, .inl (cI, 2, .inl f)), (h2, .inl (cJ, 2, .inl g))] U.heap ∧ va_K (dC, dI) vwCl [(cI, .int), (cJ, .int)] U ∧ va_D (fun _ => True) [(h0, .inr (12, fs)), (h1, .inl (cI, 2, .inl f)), (h2, .inl (cJ, 2, .inl g))])) (va_Qi (fun (r : Int32) (_ : Unit) => r = (-1)) (fun _ _ => True) (va_A [(h0, .inr (12, fs)), (h1, .inl (cI, 2, .inl f)), (h2, .inl (cJ, 2, .inl g))] sz)) 0 0 (va_A [(h0, .inr (12, fs)), (h1, .inl (cI, 2, .inl f)), (h2, .inl (cJ, 2, .inl g))] sz) := by
  refine Met.ofW (cc := cX12_want) (maxL := 1) (ret := (some .int)) (by decide) rfl ?_
  intro p e s m args below meth c s₁ B hml hv
  obtain ⟨rfl, hsz, hP, hK, hD0⟩ := hv
  have hx := B.exec
  have hb := B.bytes
  have hr := B.returns
  have hts := atoms_spec (ws := u_c_X12_want) B.pre
  have hown : s.vm.findClass RX12 = some m.cls := findClass_of_methodNamed B.named
  have hlocks := B.notSynchronized
  have hiX12 := iX12_c_X12_want
  subst hsz
  have hD := hD0.self (sz := s.heap.size)
  generalize hAe : va_A [(h0, .inr (12, fs)), (h1, .inl (cI, 2, .inl f)), (h2, .inl (cJ, 2, .inl g))] s.heap.size = A at hD ⊢
  have hA : ∀ q : Nat, s.heap.size ≤ q → A q := fun q h => by rw [← hAe]; exact Or.inr h
  have hS : va_S A s.heap s.heap [] := va_S.rf
  obtain ⟨H, hH⟩ : ∃ H : Heap, H = s.heap := ⟨_, rfl⟩
  have hP : va_P (dC, dI) vwCl [(h0, .inr (12, fs)), (h1, .inl (cI, 2, .inl f)), (h2, .inl (cJ, 2, .inl g))] H := by rw [hH]; exact hP
  have hS : va_S A s.heap H [] := by rw [hH]; exact hS
  have hl := lv_entry ([.ref h0]) (n := 1) (Nat.le_of_ble_eq_true rfl)
  rw [lg_entry_eq]
  generalize (lg_sl ([.ref h0]) ++ List.replicate (1 - (lg_sl ([.ref h0])).length) Slot.unset).toArray = ls at hl ⊢
  have hl : lv_has ls 1 [(0, .ref h0)] := hl
  suffices h9 : W p l e (headSpec u_c_X12_want _).room s m _ below meth c H [] 0 0 _ (F0 m 0 ls []) by rw [hH] at h9; exact h9
  refine lv_aload_n hx hb dX12_want_0 rfl (lv_at hl 0 rfl) ?_
  refine va_get (D := (dC, dI)) (ci := 12) (v := .int 0) (C := RX12) (T := TX12) (N := 80) hx hb hts hiX12 hown hK hP 0 rfl rfl 2 (by decide) (hts (.fieldLink RX12 247 "CakePapersModel" "taped" "I") (by decide +kernel)) (fun _ h9 => h9) e_fs_2 dX12_want_1 ?_
  refine lv_sipush (v := 400) hx hb dX12_want_4 (by decide) ?_
  refine lv_icmp_le (tgt := 13) hx hb dX12_want_7 (by decide) (fun c_1 => ?_) (fun c_1 => absurd c_1 (by decide))
  refine lv_aload_n hx hb dX12_want_13 rfl (lv_at hl 0 rfl) ?_
  have hPc := hP.sub (ws' := [(h0, .inr (12, fs))]) [0] rfl
  have hDc := hD.sub (ws' := [(h0, .inr (12, fs))]) [0] (by decide) rfl
  have hKc := hK.sub (tys' := []) [] rfl
  have hFc := va_free (wc := [(h0, .inr (12, fs))]) hD hS hA [0] rfl
  refine va_callv (va_runV (As := []) (rest := []) ⟨hx, hb, hml, hown, hts⟩ (c_X12_takeTape l dC dI H.size h0 fs hn_fs e_fs_2) (cwV 0 hts g_c_X12_want_c_X12_takeTape_0 rfl rfl rfl (by decide +kernel) ⟨Nat.le_of_ble_eq_true rfl, Nat.le_of_ble_eq_true rfl⟩) ⟨fun a U g mk q => by obtain ⟨q0, q1, qP, qK, qD⟩ := q; exact ⟨q0, q1, qP, va_K.moved (u := U) (U := U.calling g mk a) (Vm.Alike.refl U.vm) qK, qD⟩, va_recv hKc hPc (ci := 12) (q0 := 0) rfl rfl, fun U hU hW => ⟨rfl, by rw [hU], by rw [hU]; exact hPc, va_K.moved hW.alike hKc, hDc.weaken (fun _ _ _ _ => trivial)⟩⟩ rfl rfl hl.1 rfl (lv_room (Nat.le_of_ble_eq_true rfl)) dX12_want_14 ⟨Nat.le_of_ble_eq_true rfl, Nat.le_of_ble_eq_true rfl⟩) hS (fun q _ h => hFc q h) hFc (fun u t H1 locs ht hvm hw hB hz1 hk1 hS => ?_)
  obtain ⟨hP1, hD1⟩ := hB
  rw [ht] at hP1
  obtain ⟨hP, hD⟩ := va_join (wr := [(h1, .inl (cI, 2, .inl f)), (h2, .inl (cJ, 2, .inl g))]) (w1 := [(h0, .inr (12, (List.set (List.set (List.set (List.set (List.set fs 4 (.int 0)) 5 (.int (-1))) 3 (.int 0)) 2 (.int 0)) 7 (.int 0))))]) hP hD [0] [1, 2] rfl rfl (by decide) (by decide) hk1 hFc hP1 hD1
  generalize H1 = H at hP hS ⊢
  have hP : va_P (dC, dI) vwCl [(h1, .inl (cI, 2, .inl f)), (h2, .inl (cJ, 2, .inl g)), (h0, .inr (12, (List.set (List.set (List.set (List.set (List.set fs 4 (.int 0)) 5 (.int (-1))) 3 (.int 0)) 2 (.int 0)) 7 (.int 0))))] H := hP
  have hD : va_D A [(h1, .inl (cI, 2, .inl f)), (h2, .inl (cJ, 2, .inl g)), (h0, .inr (12, (List.set (List.set (List.set (List.set (List.set fs 4 (.int 0)) 5 (.int (-1))) 3 (.int 0)) 2 (.int 0)) 7 (.int 0))))] := hD
  refine W.widen (k := 0) (n := 0) (Nat.le_of_ble_eq_true rfl) (Nat.le_of_ble_eq_true rfl) ?_
  refine lv_aload_n hx hb dX12_want_17 rfl (lv_at hl 0 rfl) ?_
  refine lv_iconst (v := 1) hx hb dX12_want_18 (by decide) ?_
  refine lv_aload_n hx hb dX12_want_19 rfl (lv_at hl 0 rfl) ?_
  refine va_get (D := (dC, dI)) (ci := 12) (v := .int 0) (C := RX12) (T := TX12) (N := 80) hx hb hts hiX12 hown hK hP 2 rfl rfl 72 (by decide) (hts (.fieldLink RX12 553 "CakePapersModel" "wantBank" "I") (by decide +kernel)) (fun _ h9 => h9) (by simp [e_fs_72]) dX12_want_20 ?_
  refine lv_isub hx hb dX12_want_23 ?_
  refine zz_ci (y := 1) (by decide) ?_
  refine va_put (D := (dC, dI)) (ci := 12) (v := .int 1) (ty := .int) (C := RX12) (T := TX12) (N := 80) hx hb hts hiX12 tyX12 tyX12_ok nmX12 hown hK hP hD hS 2 rfl rfl 73 (by decide) (hts (.fieldLink RX12 556 "CakePapersModel" "wb" "I") (by decide +kernel)) (fun _ h9 => h9) rfl (by decide +kernel) rfl rfl (by simp [hn_fs]) dX12_want_24 (fun H locs hP hD hS => ?_)
  have hP : va_P (dC, dI) vwCl [(h1, .inl (cI, 2, .inl f)), (h2, .inl (cJ, 2, .inl g)), (h0, .inr (12, (List.set (List.set (List.set (List.set (List.set (List.set fs 4 (.int 0)) 5 (.int (-1))) 3 (.int 0)) 2 (.int 0)) 7 (.int 0)) 73 (.int 1))))] H := hP
  have hD : va_D A [(h1, .inl (cI, 2, .inl f)), (h2, .inl (cJ, 2, .inl g)), (h0, .inr (12, (List.set (List.set (List.set (List.set (List.set (List.set fs 4 (.int 0)) 5 (.int (-1))) 3 (.int 0)) 2 (.int 0)) 7 (.int 0)) 73 (.int 1))))] := hD
  refine lv_aload_n hx hb dX12_want_27 rfl (lv_at hl 0 rfl) ?_
  refine va_get (D := (dC, dI)) (ci := 12) (v := .ref h1) (C := RX12) (T := TX12) (N := 80) hx hb hts hiX12 hown hK hP 2 rfl rfl 66 (by decide) (hts (.fieldLink RX12 128 "CakePapersModel" "codes" "[I") (by decide +kernel)) (fun _ h9 => h9) (by simp [e_fs_66]) dX12_want_28 ?_
  refine lv_aload_n hx hb dX12_want_31 rfl (lv_at hl 0 rfl) ?_
  refine va_get (D := (dC, dI)) (ci := 12) (v := .int 1) (C := RX12) (T := TX12) (N := 80) hx hb hts hiX12 hown hK hP 2 rfl rfl 73 (by decide) (hts (.fieldLink RX12 556 "CakePapersModel" "wb" "I") (by decide +kernel)) (fun _ h9 => h9) (by simp [hn_fs]) dX12_want_32 ?_
  refine lv_iconst (v := 0) hx hb dX12_want_35 (by decide) ?_
  refine va_iast hx hb hK hP hD hS 0 0 rfl rfl (zz_in (by decide)) dX12_want_36 (fun H locs hP hD hS => ?_)
  obtain ⟨f_3, hP, hD⟩ : ∃ f_3 : Nat → Int32, va_P (dC, dI) vwCl [(h1, .inl (cI, 2, .inl f_3)), (h2, .inl (cJ, 2, .inl g)), (h0, .inr (12, (List.set (List.set (List.set (List.set (List.set (List.set fs 4 (.int 0)) 5 (.int (-1))) 3 (.int 0)) 2 (.int 0)) 7 (.int 0)) 73 (.int 1))))] H ∧ va_D A [(h1, .inl (cI, 2, .inl f_3)), (h2, .inl (cJ, 2, .inl g)), (h0, .inr (12, (List.set (List.set (List.set (List.set (List.set (List.set fs 4 (.int 0)) 5 (.int (-1))) 3 (.int 0)) 2 (.int 0)) 7 (.int 0)) 73 (.int 1))))] := ⟨_, hP, hD⟩
  refine lv_aload_n hx hb dX12_want_37 rfl (lv_at hl 0 rfl) ?_
  refine va_get (D := (dC, dI)) (ci := 12) (v := .ref h2) (C := RX12) (T := TX12) (N := 80) hx hb hts hiX12 hown hK hP 2 rfl rfl 67 (by decide) (hts (.fieldLink RX12 131 "CakePapersModel" "unitsOf" "[I") (by decide +kernel)) (fun _ h9 => h9) (by simp [e_fs_67]) dX12_want_38 ?_
  refine lv_aload_n hx hb dX12_want_41 rfl (lv_at hl 0 rfl) ?_
  refine va_get (D := (dC, dI)) (ci := 12) (v := .int 1) (C := RX12) (T := TX12) (N := 80) hx hb hts hiX12 hown hK hP 2 rfl rfl 73 (by decide) (hts (.fieldLink RX12 556 "CakePapersModel" "wb" "I") (by decide +kernel)) (fun _ h9 => h9) (by simp [hn_fs]) dX12_want_42 ?_
  refine lv_iconst (v := 0) hx hb dX12_want_45 (by decide) ?_
  refine va_iast hx hb hK hP hD hS 1 1 rfl rfl (zz_in (by decide)) dX12_want_46 (fun H locs hP hD hS => ?_)
  obtain ⟨f_4, hP, hD⟩ : ∃ f_4 : Nat → Int32, va_P (dC, dI) vwCl [(h1, .inl (cI, 2, .inl f_3)), (h2, .inl (cJ, 2, .inl f_4)), (h0, .inr (12, (List.set (List.set (List.set (List.set (List.set (List.set fs 4 (.int 0)) 5 (.int (-1))) 3 (.int 0)) 2 (.int 0)) 7 (.int 0)) 73 (.int 1))))] H ∧ va_D A [(h1, .inl (cI, 2, .inl f_3)), (h2, .inl (cJ, 2, .inl f_4)), (h0, .inr (12, (List.set (List.set (List.set (List.set (List.set (List.set fs 4 (.int 0)) 5 (.int (-1))) 3 (.int 0)) 2 (.int 0)) 7 (.int 0)) 73 (.int 1))))] := ⟨_, hP, hD⟩
  refine lv_aload_n hx hb dX12_want_47 rfl (lv_at hl 0 rfl) ?_
  have hPc := hP.sub (ws' := [(h0, .inr (12, (List.set (List.set (List.set (List.set (List.set (List.set fs 4 (.int 0)) 5 (.int (-1))) 3 (.int 0)) 2 (.int 0)) 7 (.int 0)) 73 (.int 1))))]) [2] rfl
  have hDc := hD.sub (ws' := [(h0, .inr (12, (List.set (List.set (List.set (List.set (List.set (List.set fs 4 (.int 0)) 5 (.int (-1))) 3 (.int 0)) 2 (.int 0)) 7 (.int 0)) 73 (.int 1))))]) [2] (by decide) rfl
  have hKc := hK.sub (tys' := []) [] rfl
  have hFc := va_free (wc := [(h0, .inr (12, (List.set (List.set (List.set (List.set (List.set (List.set fs 4 (.int 0)) 5 (.int (-1))) 3 (.int 0)) 2 (.int 0)) 7 (.int 0)) 73 (.int 1))))]) hD hS hA [2] rfl
  refine va_callv (va_runV (As := []) (rest := []) ⟨hx, hb, hml, hown, hts⟩ (c_X12_goOn l dC dI H.size h0 (List.set (List.set (List.set (List.set (List.set (List.set fs 4 (.int 0)) 5 (.int (-1))) 3 (.int 0)) 2 (.int 0)) 7 (.int 0)) 73 (.int 1)) (by simp [hn_fs]) (by simp [hn_fs]) (by simp [hn_fs])) (cwV 0 hts g_c_X12_want_c_X12_goOn_1 rfl rfl rfl (by decide +kernel) ⟨Nat.le_of_ble_eq_true rfl, Nat.le_of_ble_eq_true rfl⟩) ⟨fun a U g mk q => by obtain ⟨q0, q1, qP, qK, qD⟩ := q; exact ⟨q0, q1, qP, va_K.moved (u := U) (U := U.calling g mk a) (Vm.Alike.refl U.vm) qK, qD⟩, va_recv hKc hPc (ci := 12) (q0 := 0) rfl rfl, fun U hU hW => ⟨rfl, by rw [hU], by rw [hU]; exact hPc, va_K.moved hW.alike hKc, hDc.weaken (fun _ _ _ _ => trivial)⟩⟩ rfl rfl hl.1 rfl (lv_room (Nat.le_of_ble_eq_true rfl)) dX12_want_48 ⟨Nat.le_of_ble_eq_true rfl, Nat.le_of_ble_eq_true rfl⟩) hS (fun q _ h => hFc q h) hFc (fun u t H1 locs ht hvm hw hB hz1 hk1 hS => ?_)
  obtain ⟨hP1, hD1⟩ := hB
  rw [ht] at hP1
  obtain ⟨hP, hD⟩ := va_join (wr := [(h1, .inl (cI, 2, .inl f_3)), (h2, .inl (cJ, 2, .inl f_4))]) (w1 := [(h0, .inr (12, (List.set (List.set (List.set (List.set (List.set (List.set (List.set (List.set (List.set (List.set (List.set fs 4 (.int 0)) 5 (.int (-1))) 3 (.int 0)) 2 (.int 0)) 7 (.int 0)) 73 (.int 1)) 6 (.int 0)) 7 (.int 1)) 8 (.int 0)) 6 (.int 0)) 7 (.int 0))))]) hP hD [2] [0, 1] rfl rfl (by decide) (by decide) hk1 hFc hP1 hD1
  generalize H1 = H at hP hS ⊢
  have hP : va_P (dC, dI) vwCl [(h1, .inl (cI, 2, .inl f_3)), (h2, .inl (cJ, 2, .inl f_4)), (h0, .inr (12, (List.set (List.set (List.set (List.set (List.set (List.set (List.set (List.set (List.set (List.set (List.set fs 4 (.int 0)) 5 (.int (-1))) 3 (.int 0)) 2 (.int 0)) 7 (.int 0)) 73 (.int 1)) 6 (.int 0)) 7 (.int 1)) 8 (.int 0)) 6 (.int 0)) 7 (.int 0))))] H := hP
  have hD : va_D A [(h1, .inl (cI, 2, .inl f_3)), (h2, .inl (cJ, 2, .inl f_4)), (h0, .inr (12, (List.set (List.set (List.set (List.set (List.set (List.set (List.set (List.set (List.set (List.set (List.set fs 4 (.int 0)) 5 (.int (-1))) 3 (.int 0)) 2 (.int 0)) 7 (.int 0)) 73 (.int 1)) 6 (.int 0)) 7 (.int 1)) 8 (.int 0)) 6 (.int 0)) 7 (.int 0))))] := hD
  refine W.widen (k := 0) (n := 0) (Nat.le_of_ble_eq_true rfl) (Nat.le_of_ble_eq_true rfl) ?_
  refine lv_aload_n hx hb dX12_want_51 rfl (lv_at hl 0 rfl) ?_
  refine lv_aload_n hx hb dX12_want_52 rfl (lv_at hl 0 rfl) ?_
  refine lv_ldc2 (v := 2002873972) hx hb hown (hts (.constantLong RX12 176 2002873972) (by decide +kernel)) dX12_want_53 ?_
  have hPc := hP.sub (ws' := [(h0, .inr (12, (List.set (List.set (List.set (List.set (List.set (List.set (List.set (List.set (List.set (List.set (List.set fs 4 (.int 0)) 5 (.int (-1))) 3 (.int 0)) 2 (.int 0)) 7 (.int 0)) 73 (.int 1)) 6 (.int 0)) 7 (.int 1)) 8 (.int 0)) 6 (.int 0)) 7 (.int 0))))]) [2] rfl
  have hDc := hD.sub (ws' := [(h0, .inr (12, (List.set (List.set (List.set (List.set (List.set (List.set (List.set (List.set (List.set (List.set (List.set fs 4 (.int 0)) 5 (.int (-1))) 3 (.int 0)) 2 (.int 0)) 7 (.int 0)) 73 (.int 1)) 6 (.int 0)) 7 (.int 1)) 8 (.int 0)) 6 (.int 0)) 7 (.int 0))))]) [2] (by decide) rfl
  have hKc := hK.sub (tys' := []) [] rfl
  have hFc := va_free (wc := [(h0, .inr (12, (List.set (List.set (List.set (List.set (List.set (List.set (List.set (List.set (List.set (List.set (List.set fs 4 (.int 0)) 5 (.int (-1))) 3 (.int 0)) 2 (.int 0)) 7 (.int 0)) 73 (.int 1)) 6 (.int 0)) 7 (.int 1)) 8 (.int 0)) 6 (.int 0)) 7 (.int 0))))]) hD hS hA [2] rfl
  refine va_calli (va_runV (As := [.long 2002873972]) (rest := [.ref h0]) ⟨hx, hb, hml, hown, hts⟩ (c_X12_isWord l dC dI H.size h0 (List.set (List.set (List.set (List.set (List.set (List.set (List.set (List.set (List.set (List.set (List.set fs 4 (.int 0)) 5 (.int (-1))) 3 (.int 0)) 2 (.int 0)) 7 (.int 0)) 73 (.int 1)) 6 (.int 0)) 7 (.int 1)) 8 (.int 0)) 6 (.int 0)) 7 (.int 0)) (by simp [hn_fs]) (by simp [hn_fs])) (cwV 1 hts g_c_X12_want_c_X12_isWord_2 rfl rfl rfl (by decide +kernel) ⟨Nat.le_of_ble_eq_true rfl, Nat.le_of_ble_eq_true rfl⟩) ⟨fun a U g mk q => by obtain ⟨q0, q1, qP, qK, qD⟩ := q; exact ⟨q0, q1, qP, va_K.moved (u := U) (U := U.calling g mk a) (Vm.Alike.refl U.vm) qK, qD⟩, va_recv hKc hPc (ci := 12) (q0 := 0) rfl rfl, fun U hU hW => ⟨rfl, by rw [hU], by rw [hU]; exact hPc, va_K.moved hW.alike hKc, hDc.weaken (fun _ _ _ _ => trivial)⟩⟩ rfl rfl hl.1 rfl (lv_room (Nat.le_of_ble_eq_true rfl)) dX12_want_56 ⟨Nat.le_of_ble_eq_true rfl, Nat.le_of_ble_eq_true rfl⟩) hS (fun q _ h => hFc q h) hFc (fun r_6 u t H1 locs ht hvm hw hB hz1 hk1 hS => ?_)
  obtain ⟨hP1, hD1⟩ := hB
  rw [ht] at hP1
  obtain ⟨hP, hD⟩ := va_join (wr := [(h1, .inl (cI, 2, .inl f_3)), (h2, .inl (cJ, 2, .inl f_4))]) (w1 := [(h0, .inr (12, (List.set (List.set (List.set (List.set (List.set (List.set (List.set (List.set (List.set (List.set (List.set fs 4 (.int 0)) 5 (.int (-1))) 3 (.int 0)) 2 (.int 0)) 7 (.int 0)) 73 (.int 1)) 6 (.int 0)) 7 (.int 1)) 8 (.int 0)) 6 (.int 0)) 7 (.int 0))))]) hP hD [2] [0, 1] rfl rfl (by decide) (by decide) hk1 hFc hP1 hD1
  generalize H1 = H at hP hS ⊢
  have hP : va_P (dC, dI) vwCl [(h1, .inl (cI, 2, .inl f_3)), (h2, .inl (cJ, 2, .inl f_4)), (h0, .inr (12, (List.set (List.set (List.set (List.set (List.set (List.set (List.set (List.set (List.set (List.set (List.set fs 4 (.int 0)) 5 (.int (-1))) 3 (.int 0)) 2 (.int 0)) 7 (.int 0)) 73 (.int 1)) 6 (.int 0)) 7 (.int 1)) 8 (.int 0)) 6 (.int 0)) 7 (.int 0))))] H := hP
  have hD : va_D A [(h1, .inl (cI, 2, .inl f_3)), (h2, .inl (cJ, 2, .inl f_4)), (h0, .inr (12, (List.set (List.set (List.set (List.set (List.set (List.set (List.set (List.set (List.set (List.set (List.set fs 4 (.int 0)) 5 (.int (-1))) 3 (.int 0)) 2 (.int 0)) 7 (.int 0)) 73 (.int 1)) 6 (.int 0)) 7 (.int 1)) 8 (.int 0)) 6 (.int 0)) 7 (.int 0))))] := hD
  refine W.widen (k := 0) (n := 0) (Nat.le_of_ble_eq_true rfl) (Nat.le_of_ble_eq_true rfl) ?_
  refine zz_ci (y := 0) hw ?_
  have hPc := hP.sub (ws' := [(h0, .inr (12, (List.set (List.set (List.set (List.set (List.set (List.set (List.set (List.set (List.set (List.set (List.set fs 4 (.int 0)) 5 (.int (-1))) 3 (.int 0)) 2 (.int 0)) 7 (.int 0)) 73 (.int 1)) 6 (.int 0)) 7 (.int 1)) 8 (.int 0)) 6 (.int 0)) 7 (.int 0))))]) [2] rfl
  have hDc := hD.sub (ws' := [(h0, .inr (12, (List.set (List.set (List.set (List.set (List.set (List.set (List.set (List.set (List.set (List.set (List.set fs 4 (.int 0)) 5 (.int (-1))) 3 (.int 0)) 2 (.int 0)) 7 (.int 0)) 73 (.int 1)) 6 (.int 0)) 7 (.int 1)) 8 (.int 0)) 6 (.int 0)) 7 (.int 0))))]) [2] (by decide) rfl
  have hKc := hK.sub (tys' := []) [] rfl
  have hFc := va_free (wc := [(h0, .inr (12, (List.set (List.set (List.set (List.set (List.set (List.set (List.set (List.set (List.set (List.set (List.set fs 4 (.int 0)) 5 (.int (-1))) 3 (.int 0)) 2 (.int 0)) 7 (.int 0)) 73 (.int 1)) 6 (.int 0)) 7 (.int 1)) 8 (.int 0)) 6 (.int 0)) 7 (.int 0))))]) hD hS hA [2] rfl
  refine va_callv (va_runV (As := [.int 0]) (rest := []) ⟨hx, hb, hml, hown, hts⟩ (c_X12_must_0 l dC dI H.size h0 (List.set (List.set (List.set (List.set (List.set (List.set (List.set (List.set (List.set (List.set (List.set fs 4 (.int 0)) 5 (.int (-1))) 3 (.int 0)) 2 (.int 0)) 7 (.int 0)) 73 (.int 1)) 6 (.int 0)) 7 (.int 1)) 8 (.int 0)) 6 (.int 0)) 7 (.int 0)) (by simp [hn_fs]) (by simp [hn_fs]) (by simp [hn_fs]) (by simp [hn_fs])) (cwV 1 hts g_c_X12_want_c_X12_must_0_3 rfl rfl rfl (by decide +kernel) ⟨Nat.le_of_ble_eq_true rfl, Nat.le_of_ble_eq_true rfl⟩) ⟨fun a U g mk q => by obtain ⟨q0, q1, qP, qK, qD⟩ := q; exact ⟨q0, q1, qP, va_K.moved (u := U) (U := U.calling g mk a) (Vm.Alike.refl U.vm) qK, qD⟩, va_recv hKc hPc (ci := 12) (q0 := 0) rfl rfl, fun U hU hW => ⟨rfl, by rw [hU], by rw [hU]; exact hPc, va_K.moved hW.alike hKc, hDc.weaken (fun _ _ _ _ => trivial)⟩⟩ rfl rfl hl.1 rfl (lv_room (Nat.le_of_ble_eq_true rfl)) dX12_want_59 ⟨Nat.le_of_ble_eq_true rfl, Nat.le_of_ble_eq_true rfl⟩) hS (fun q _ h => hFc q h) hFc (fun u t H1 locs ht hvm hw hB hz1 hk1 hS => ?_)
  obtain ⟨hP1, hD1⟩ := hB
  rw [ht] at hP1
  obtain ⟨hP, hD⟩ := va_join (wr := [(h1, .inl (cI, 2, .inl f_3)), (h2, .inl (cJ, 2, .inl f_4))]) (w1 := [(h0, .inr (12, (List.set (List.set (List.set (List.set (List.set (List.set (List.set (List.set (List.set (List.set (List.set (List.set (List.set fs 4 (.int 0)) 5 (.int (-1))) 3 (.int 0)) 2 (.int 0)) 7 (.int 0)) 73 (.int 1)) 6 (.int 0)) 7 (.int 1)) 8 (.int 0)) 6 (.int 0)) 7 (.int 0)) 4 (.int 2)) 5 (.int 0))))]) hP hD [2] [0, 1] rfl rfl (by decide) (by decide) hk1 hFc hP1 hD1
  generalize H1 = H at hP hS ⊢
  have hP : va_P (dC, dI) vwCl [(h1, .inl (cI, 2, .inl f_3)), (h2, .inl (cJ, 2, .inl f_4)), (h0, .inr (12, (List.set (List.set (List.set (List.set (List.set (List.set (List.set (List.set (List.set (List.set (List.set (List.set (List.set fs 4 (.int 0)) 5 (.int (-1))) 3 (.int 0)) 2 (.int 0)) 7 (.int 0)) 73 (.int 1)) 6 (.int 0)) 7 (.int 1)) 8 (.int 0)) 6 (.int 0)) 7 (.int 0)) 4 (.int 2)) 5 (.int 0))))] H := hP
  have hD : va_D A [(h1, .inl (cI, 2, .inl f_3)), (h2, .inl (cJ, 2, .inl f_4)), (h0, .inr (12, (List.set (List.set (List.set (List.set (List.set (List.set (List.set (List.set (List.set (List.set (List.set (List.set (List.set fs 4 (.int 0)) 5 (.int (-1))) 3 (.int 0)) 2 (.int 0)) 7 (.int 0)) 73 (.int 1)) 6 (.int 0)) 7 (.int 1)) 8 (.int 0)) 6 (.int 0)) 7 (.int 0)) 4 (.int 2)) 5 (.int 0))))] := hD
  refine W.widen (k := 0) (n := 0) (Nat.le_of_ble_eq_true rfl) (Nat.le_of_ble_eq_true rfl) ?_
  refine lv_aload_n hx hb dX12_want_62 rfl (lv_at hl 0 rfl) ?_
  have hPc := hP.sub (ws' := [(h0, .inr (12, (List.set (List.set (List.set (List.set (List.set (List.set (List.set (List.set (List.set (List.set (List.set (List.set (List.set fs 4 (.int 0)) 5 (.int (-1))) 3 (.int 0)) 2 (.int 0)) 7 (.int 0)) 73 (.int 1)) 6 (.int 0)) 7 (.int 1)) 8 (.int 0)) 6 (.int 0)) 7 (.int 0)) 4 (.int 2)) 5 (.int 0))))]) [2] rfl
  have hDc := hD.sub (ws' := [(h0, .inr (12, (List.set (List.set (List.set (List.set (List.set (List.set (List.set (List.set (List.set (List.set (List.set (List.set (List.set fs 4 (.int 0)) 5 (.int (-1))) 3 (.int 0)) 2 (.int 0)) 7 (.int 0)) 73 (.int 1)) 6 (.int 0)) 7 (.int 1)) 8 (.int 0)) 6 (.int 0)) 7 (.int 0)) 4 (.int 2)) 5 (.int 0))))]) [2] (by decide) rfl
  have hKc := hK.sub (tys' := []) [] rfl
  have hFc := va_free (wc := [(h0, .inr (12, (List.set (List.set (List.set (List.set (List.set (List.set (List.set (List.set (List.set (List.set (List.set (List.set (List.set fs 4 (.int 0)) 5 (.int (-1))) 3 (.int 0)) 2 (.int 0)) 7 (.int 0)) 73 (.int 1)) 6 (.int 0)) 7 (.int 1)) 8 (.int 0)) 6 (.int 0)) 7 (.int 0)) 4 (.int 2)) 5 (.int 0))))]) hD hS hA [2] rfl
  refine va_calli (va_runV (As := []) (rest := []) ⟨hx, hb, hml, hown, hts⟩ (c_X12_isGood_2 l dC dI H.size h0 (List.set (List.set (List.set (List.set (List.set (List.set (List.set (List.set (List.set (List.set (List.set (List.set (List.set fs 4 (.int 0)) 5 (.int (-1))) 3 (.int 0)) 2 (.int 0)) 7 (.int 0)) 73 (.int 1)) 6 (.int 0)) 7 (.int 1)) 8 (.int 0)) 6 (.int 0)) 7 (.int 0)) 4 (.int 2)) 5 (.int 0)) (by simp [hn_fs]) (by simp [hn_fs])) (cwV 0 hts g_c_X12_want_c_X12_isGood_2_4 rfl rfl rfl (by decide +kernel) ⟨Nat.le_of_ble_eq_true rfl, Nat.le_of_ble_eq_true rfl⟩) ⟨fun a U g mk q => by obtain ⟨q0, q1, qP, qK, qD⟩ := q; exact ⟨q0, q1, qP, va_K.moved (u := U) (U := U.calling g mk a) (Vm.Alike.refl U.vm) qK, qD⟩, va_recv hKc hPc (ci := 12) (q0 := 0) rfl rfl, fun U hU hW => ⟨rfl, by rw [hU], by rw [hU]; exact hPc, va_K.moved hW.alike hKc, hDc.weaken (fun _ _ _ _ => trivial)⟩⟩ rfl rfl hl.1 rfl (lv_room (Nat.le_of_ble_eq_true rfl)) dX12_want_63 ⟨Nat.le_of_ble_eq_true rfl, Nat.le_of_ble_eq_true rfl⟩) hS (fun q _ h => hFc q h) hFc (fun r_8 u t H1 locs ht hvm hw hB hz1 hk1 hS => ?_)
  obtain ⟨hP1, hD1⟩ := hB
  rw [ht] at hP1
  obtain ⟨hP, hD⟩ := va_join (wr := [(h1, .inl (cI, 2, .inl f_3)), (h2, .inl (cJ, 2, .inl f_4))]) (w1 := [(h0, .inr (12, (List.set (List.set (List.set (List.set (List.set (List.set (List.set (List.set (List.set (List.set (List.set (List.set (List.set fs 4 (.int 0)) 5 (.int (-1))) 3 (.int 0)) 2 (.int 0)) 7 (.int 0)) 73 (.int 1)) 6 (.int 0)) 7 (.int 1)) 8 (.int 0)) 6 (.int 0)) 7 (.int 0)) 4 (.int 2)) 5 (.int 0))))]) hP hD [2] [0, 1] rfl rfl (by decide) (by decide) hk1 hFc hP1 hD1
  generalize H1 = H at hP hS ⊢
  have hP : va_P (dC, dI) vwCl [(h1, .inl (cI, 2, .inl f_3)), (h2, .inl (cJ, 2, .inl f_4)), (h0, .inr (12, (List.set (List.set (List.set (List.set (List.set (List.set (List.set (List.set (List.set (List.set (List.set (List.set (List.set fs 4 (.int 0)) 5 (.int (-1))) 3 (.int 0)) 2 (.int 0)) 7 (.int 0)) 73 (.int 1)) 6 (.int 0)) 7 (.int 1)) 8 (.int 0)) 6 (.int 0)) 7 (.int 0)) 4 (.int 2)) 5 (.int 0))))] H := hP
  have hD : va_D A [(h1, .inl (cI, 2, .inl f_3)), (h2, .inl (cJ, 2, .inl f_4)), (h0, .inr (12, (List.set (List.set (List.set (List.set (List.set (List.set (List.set (List.set (List.set (List.set (List.set (List.set (List.set fs 4 (.int 0)) 5 (.int (-1))) 3 (.int 0)) 2 (.int 0)) 7 (.int 0)) 73 (.int 1)) 6 (.int 0)) 7 (.int 1)) 8 (.int 0)) 6 (.int 0)) 7 (.int 0)) 4 (.int 2)) 5 (.int 0))))] := hD
  refine W.widen (k := 0) (n := 0) (Nat.le_of_ble_eq_true rfl) (Nat.le_of_ble_eq_true rfl) ?_
  refine zz_ci (y := 0) hw ?_
  refine lv_if_eq (tgt := 73) hx hb dX12_want_66 (by decide) (fun c_9 => ?_) (fun c_9 => absurd c_9 (by decide))
  refine lv_aload_n hx hb dX12_want_73 rfl (lv_at hl 0 rfl) ?_
  refine lv_aload_n hx hb dX12_want_74 rfl (lv_at hl 0 rfl) ?_
  refine lv_bipush (v := 59) hx hb dX12_want_75 (by decide) ?_
  have hPc := hP.sub (ws' := [(h0, .inr (12, (List.set (List.set (List.set (List.set (List.set (List.set (List.set (List.set (List.set (List.set (List.set (List.set (List.set fs 4 (.int 0)) 5 (.int (-1))) 3 (.int 0)) 2 (.int 0)) 7 (.int 0)) 73 (.int 1)) 6 (.int 0)) 7 (.int 1)) 8 (.int 0)) 6 (.int 0)) 7 (.int 0)) 4 (.int 2)) 5 (.int 0))))]) [2] rfl
  have hDc := hD.sub (ws' := [(h0, .inr (12, (List.set (List.set (List.set (List.set (List.set (List.set (List.set (List.set (List.set (List.set (List.set (List.set (List.set fs 4 (.int 0)) 5 (.int (-1))) 3 (.int 0)) 2 (.int 0)) 7 (.int 0)) 73 (.int 1)) 6 (.int 0)) 7 (.int 1)) 8 (.int 0)) 6 (.int 0)) 7 (.int 0)) 4 (.int 2)) 5 (.int 0))))]) [2] (by decide) rfl
  have hKc := hK.sub (tys' := []) [] rfl
  have hFc := va_free (wc := [(h0, .inr (12, (List.set (List.set (List.set (List.set (List.set (List.set (List.set (List.set (List.set (List.set (List.set (List.set (List.set fs 4 (.int 0)) 5 (.int (-1))) 3 (.int 0)) 2 (.int 0)) 7 (.int 0)) 73 (.int 1)) 6 (.int 0)) 7 (.int 1)) 8 (.int 0)) 6 (.int 0)) 7 (.int 0)) 4 (.int 2)) 5 (.int 0))))]) hD hS hA [2] rfl
  refine va_calli (va_runV (As := [.int 59]) (rest := [.ref h0]) ⟨hx, hb, hml, hown, hts⟩ (c_X12_is l dC dI H.size h0 (List.set (List.set (List.set (List.set (List.set (List.set (List.set (List.set (List.set (List.set (List.set (List.set (List.set fs 4 (.int 0)) 5 (.int (-1))) 3 (.int 0)) 2 (.int 0)) 7 (.int 0)) 73 (.int 1)) 6 (.int 0)) 7 (.int 1)) 8 (.int 0)) 6 (.int 0)) 7 (.int 0)) 4 (.int 2)) 5 (.int 0)) (by simp [hn_fs]) (by simp [hn_fs])) (cwV 1 hts g_c_X12_want_c_X12_is_5 rfl rfl rfl (by decide +kernel) ⟨Nat.le_of_ble_eq_true rfl, Nat.le_of_ble_eq_true rfl⟩) ⟨fun a U g mk q => by obtain ⟨q0, q1, qP, qK, qD⟩ := q; exact ⟨q0, q1, qP, va_K.moved (u := U) (U := U.calling g mk a) (Vm.Alike.refl U.vm) qK, qD⟩, va_recv hKc hPc (ci := 12) (q0 := 0) rfl rfl, fun U hU hW => ⟨rfl, by rw [hU], by rw [hU]; exact hPc, va_K.moved hW.alike hKc, hDc.weaken (fun _ _ _ _ => trivial)⟩⟩ rfl rfl hl.1 rfl (lv_room (Nat.le_of_ble_eq_true rfl)) dX12_want_77 ⟨Nat.le_of_ble_eq_true rfl, Nat.le_of_ble_eq_true rfl⟩) hS (fun q _ h => hFc q h) hFc (fun r_10 u t H1 locs ht hvm hw hB hz1 hk1 hS => ?_)
  obtain ⟨hP1, hD1⟩ := hB
  rw [ht] at hP1
  obtain ⟨hP, hD⟩ := va_join (wr := [(h1, .inl (cI, 2, .inl f_3)), (h2, .inl (cJ, 2, .inl f_4))]) (w1 := [(h0, .inr (12, (List.set (List.set (List.set (List.set (List.set (List.set (List.set (List.set (List.set (List.set (List.set (List.set (List.set fs 4 (.int 0)) 5 (.int (-1))) 3 (.int 0)) 2 (.int 0)) 7 (.int 0)) 73 (.int 1)) 6 (.int 0)) 7 (.int 1)) 8 (.int 0)) 6 (.int 0)) 7 (.int 0)) 4 (.int 2)) 5 (.int 0))))]) hP hD [2] [0, 1] rfl rfl (by decide) (by decide) hk1 hFc hP1 hD1
  generalize H1 = H at hP hS ⊢
  have hP : va_P (dC, dI) vwCl [(h1, .inl (cI, 2, .inl f_3)), (h2, .inl (cJ, 2, .inl f_4)), (h0, .inr (12, (List.set (List.set (List.set (List.set (List.set (List.set (List.set (List.set (List.set (List.set (List.set (List.set (List.set fs 4 (.int 0)) 5 (.int (-1))) 3 (.int 0)) 2 (.int 0)) 7 (.int 0)) 73 (.int 1)) 6 (.int 0)) 7 (.int 1)) 8 (.int 0)) 6 (.int 0)) 7 (.int 0)) 4 (.int 2)) 5 (.int 0))))] H := hP
  have hD : va_D A [(h1, .inl (cI, 2, .inl f_3)), (h2, .inl (cJ, 2, .inl f_4)), (h0, .inr (12, (List.set (List.set (List.set (List.set (List.set (List.set (List.set (List.set (List.set (List.set (List.set (List.set (List.set fs 4 (.int 0)) 5 (.int (-1))) 3 (.int 0)) 2 (.int 0)) 7 (.int 0)) 73 (.int 1)) 6 (.int 0)) 7 (.int 1)) 8 (.int 0)) 6 (.int 0)) 7 (.int 0)) 4 (.int 2)) 5 (.int 0))))] := hD
  refine W.widen (k := 0) (n := 0) (Nat.le_of_ble_eq_true rfl) (Nat.le_of_ble_eq_true rfl) ?_
  refine zz_ci (y := 0) hw ?_
  have hPc := hP.sub (ws' := [(h0, .inr (12, (List.set (List.set (List.set (List.set (List.set (List.set (List.set (List.set (List.set (List.set (List.set (List.set (List.set fs 4 (.int 0)) 5 (.int (-1))) 3 (.int 0)) 2 (.int 0)) 7 (.int 0)) 73 (.int 1)) 6 (.int 0)) 7 (.int 1)) 8 (.int 0)) 6 (.int 0)) 7 (.int 0)) 4 (.int 2)) 5 (.int 0))))]) [2] rfl
  have hDc := hD.sub (ws' := [(h0, .inr (12, (List.set (List.set (List.set (List.set (List.set (List.set (List.set (List.set (List.set (List.set (List.set (List.set (List.set fs 4 (.int 0)) 5 (.int (-1))) 3 (.int 0)) 2 (.int 0)) 7 (.int 0)) 73 (.int 1)) 6 (.int 0)) 7 (.int 1)) 8 (.int 0)) 6 (.int 0)) 7 (.int 0)) 4 (.int 2)) 5 (.int 0))))]) [2] (by decide) rfl
  have hKc := hK.sub (tys' := []) [] rfl
  have hFc := va_free (wc := [(h0, .inr (12, (List.set (List.set (List.set (List.set (List.set (List.set (List.set (List.set (List.set (List.set (List.set (List.set (List.set fs 4 (.int 0)) 5 (.int (-1))) 3 (.int 0)) 2 (.int 0)) 7 (.int 0)) 73 (.int 1)) 6 (.int 0)) 7 (.int 1)) 8 (.int 0)) 6 (.int 0)) 7 (.int 0)) 4 (.int 2)) 5 (.int 0))))]) hD hS hA [2] rfl
  refine va_callv (va_runV (As := [.int 0]) (rest := []) ⟨hx, hb, hml, hown, hts⟩ (c_X12_must_2 l dC dI H.size h0 (List.set (List.set (List.set (List.set (List.set (List.set (List.set (List.set (List.set (List.set (List.set (List.set (List.set fs 4 (.int 0)) 5 (.int (-1))) 3 (.int 0)) 2 (.int 0)) 7 (.int 0)) 73 (.int 1)) 6 (.int 0)) 7 (.int 1)) 8 (.int 0)) 6 (.int 0)) 7 (.int 0)) 4 (.int 2)) 5 (.int 0)) (by simp [hn_fs]) (by simp [hn_fs])) (cwV 1 hts g_c_X12_want_c_X12_must_2_6 rfl rfl rfl (by decide +kernel) ⟨Nat.le_of_ble_eq_true rfl, Nat.le_of_ble_eq_true rfl⟩) ⟨fun a U g mk q => by obtain ⟨q0, q1, qP, qK, qD⟩ := q; exact ⟨q0, q1, qP, va_K.moved (u := U) (U := U.calling g mk a) (Vm.Alike.refl U.vm) qK, qD⟩, va_recv hKc hPc (ci := 12) (q0 := 0) rfl rfl, fun U hU hW => ⟨rfl, by rw [hU], by rw [hU]; exact hPc, va_K.moved hW.alike hKc, hDc.weaken (fun _ _ _ _ => trivial)⟩⟩ rfl rfl hl.1 rfl (lv_room (Nat.le_of_ble_eq_true rfl)) dX12_want_80 ⟨Nat.le_of_ble_eq_true rfl, Nat.le_of_ble_eq_true rfl⟩) hS (fun q _ h => hFc q h) hFc (fun u t H1 locs ht hvm hw hB hz1 hk1 hS => ?_)
  obtain ⟨hP1, hD1⟩ := hB
  rw [ht] at hP1
  obtain ⟨hP, hD⟩ := va_join (wr := [(h1, .inl (cI, 2, .inl f_3)), (h2, .inl (cJ, 2, .inl f_4))]) (w1 := [(h0, .inr (12, (List.set (List.set (List.set (List.set (List.set (List.set (List.set (List.set (List.set (List.set (List.set (List.set (List.set fs 4 (.int 0)) 5 (.int (-1))) 3 (.int 0)) 2 (.int 0)) 7 (.int 0)) 73 (.int 1)) 6 (.int 0)) 7 (.int 1)) 8 (.int 0)) 6 (.int 0)) 7 (.int 0)) 4 (.int 2)) 5 (.int 0))))]) hP hD [2] [0, 1] rfl rfl (by decide) (by decide) hk1 hFc hP1 hD1
  generalize H1 = H at hP hS ⊢
  have hP : va_P (dC, dI) vwCl [(h1, .inl (cI, 2, .inl f_3)), (h2, .inl (cJ, 2, .inl f_4)), (h0, .inr (12, (List.set (List.set (List.set (List.set (List.set (List.set (List.set (List.set (List.set (List.set (List.set (List.set (List.set fs 4 (.int 0)) 5 (.int (-1))) 3 (.int 0)) 2 (.int 0)) 7 (.int 0)) 73 (.int 1)) 6 (.int 0)) 7 (.int 1)) 8 (.int 0)) 6 (.int 0)) 7 (.int 0)) 4 (.int 2)) 5 (.int 0))))] H := hP
  have hD : va_D A [(h1, .inl (cI, 2, .inl f_3)), (h2, .inl (cJ, 2, .inl f_4)), (h0, .inr (12, (List.set (List.set (List.set (List.set (List.set (List.set (List.set (List.set (List.set (List.set (List.set (List.set (List.set fs 4 (.int 0)) 5 (.int (-1))) 3 (.int 0)) 2 (.int 0)) 7 (.int 0)) 73 (.int 1)) 6 (.int 0)) 7 (.int 1)) 8 (.int 0)) 6 (.int 0)) 7 (.int 0)) 4 (.int 2)) 5 (.int 0))))] := hD
  refine W.widen (k := 0) (n := 0) (Nat.le_of_ble_eq_true rfl) (Nat.le_of_ble_eq_true rfl) ?_
  refine lv_aload_n hx hb dX12_want_83 rfl (lv_at hl 0 rfl) ?_
  have hPc := hP.sub (ws' := [(h0, .inr (12, (List.set (List.set (List.set (List.set (List.set (List.set (List.set (List.set (List.set (List.set (List.set (List.set (List.set fs 4 (.int 0)) 5 (.int (-1))) 3 (.int 0)) 2 (.int 0)) 7 (.int 0)) 73 (.int 1)) 6 (.int 0)) 7 (.int 1)) 8 (.int 0)) 6 (.int 0)) 7 (.int 0)) 4 (.int 2)) 5 (.int 0))))]) [2] rfl
  have hDc := hD.sub (ws' := [(h0, .inr (12, (List.set (List.set (List.set (List.set (List.set (List.set (List.set (List.set (List.set (List.set (List.set (List.set (List.set fs 4 (.int 0)) 5 (.int (-1))) 3 (.int 0)) 2 (.int 0)) 7 (.int 0)) 73 (.int 1)) 6 (.int 0)) 7 (.int 1)) 8 (.int 0)) 6 (.int 0)) 7 (.int 0)) 4 (.int 2)) 5 (.int 0))))]) [2] (by decide) rfl
  have hKc := hK.sub (tys' := []) [] rfl
  have hFc := va_free (wc := [(h0, .inr (12, (List.set (List.set (List.set (List.set (List.set (List.set (List.set (List.set (List.set (List.set (List.set (List.set (List.set fs 4 (.int 0)) 5 (.int (-1))) 3 (.int 0)) 2 (.int 0)) 7 (.int 0)) 73 (.int 1)) 6 (.int 0)) 7 (.int 1)) 8 (.int 0)) 6 (.int 0)) 7 (.int 0)) 4 (.int 2)) 5 (.int 0))))]) hD hS hA [2] rfl
  refine va_calli (va_runV (As := []) (rest := []) ⟨hx, hb, hml, hown, hts⟩ (c_X12_isGood_2 l dC dI H.size h0 (List.set (List.set (List.set (List.set (List.set (List.set (List.set (List.set (List.set (List.set (List.set (List.set (List.set fs 4 (.int 0)) 5 (.int (-1))) 3 (.int 0)) 2 (.int 0)) 7 (.int 0)) 73 (.int 1)) 6 (.int 0)) 7 (.int 1)) 8 (.int 0)) 6 (.int 0)) 7 (.int 0)) 4 (.int 2)) 5 (.int 0)) (by simp [hn_fs]) (by simp [hn_fs])) (cwV 0 hts g_c_X12_want_c_X12_isGood_2_4 rfl rfl rfl (by decide +kernel) ⟨Nat.le_of_ble_eq_true rfl, Nat.le_of_ble_eq_true rfl⟩) ⟨fun a U g mk q => by obtain ⟨q0, q1, qP, qK, qD⟩ := q; exact ⟨q0, q1, qP, va_K.moved (u := U) (U := U.calling g mk a) (Vm.Alike.refl U.vm) qK, qD⟩, va_recv hKc hPc (ci := 12) (q0 := 0) rfl rfl, fun U hU hW => ⟨rfl, by rw [hU], by rw [hU]; exact hPc, va_K.moved hW.alike hKc, hDc.weaken (fun _ _ _ _ => trivial)⟩⟩ rfl rfl hl.1 rfl (lv_room (Nat.le_of_ble_eq_true rfl)) dX12_want_84 ⟨Nat.le_of_ble_eq_true rfl, Nat.le_of_ble_eq_true rfl⟩) hS (fun q _ h => hFc q h) hFc (fun r_12 u t H1 locs ht hvm hw hB hz1 hk1 hS => ?_)
  obtain ⟨hP1, hD1⟩ := hB
  rw [ht] at hP1
  obtain ⟨hP, hD⟩ := va_join (wr := [(h1, .inl (cI, 2, .inl f_3)), (h2, .inl (cJ, 2, .inl f_4))]) (w1 := [(h0, .inr (12, (List.set (List.set (List.set (List.set (List.set (List.set (List.set (List.set (List.set (List.set (List.set (List.set (List.set fs 4 (.int 0)) 5 (.int (-1))) 3 (.int 0)) 2 (.int 0)) 7 (.int 0)) 73 (.int 1)) 6 (.int 0)) 7 (.int 1)) 8 (.int 0)) 6 (.int 0)) 7 (.int 0)) 4 (.int 2)) 5 (.int 0))))]) hP hD [2] [0, 1] rfl rfl (by decide) (by decide) hk1 hFc hP1 hD1
  generalize H1 = H at hP hS ⊢
  have hP : va_P (dC, dI) vwCl [(h1, .inl (cI, 2, .inl f_3)), (h2, .inl (cJ, 2, .inl f_4)), (h0, .inr (12, (List.set (List.set (List.set (List.set (List.set (List.set (List.set (List.set (List.set (List.set (List.set (List.set (List.set fs 4 (.int 0)) 5 (.int (-1))) 3 (.int 0)) 2 (.int 0)) 7 (.int 0)) 73 (.int 1)) 6 (.int 0)) 7 (.int 1)) 8 (.int 0)) 6 (.int 0)) 7 (.int 0)) 4 (.int 2)) 5 (.int 0))))] H := hP
  have hD : va_D A [(h1, .inl (cI, 2, .inl f_3)), (h2, .inl (cJ, 2, .inl f_4)), (h0, .inr (12, (List.set (List.set (List.set (List.set (List.set (List.set (List.set (List.set (List.set (List.set (List.set (List.set (List.set fs 4 (.int 0)) 5 (.int (-1))) 3 (.int 0)) 2 (.int 0)) 7 (.int 0)) 73 (.int 1)) 6 (.int 0)) 7 (.int 1)) 8 (.int 0)) 6 (.int 0)) 7 (.int 0)) 4 (.int 2)) 5 (.int 0))))] := hD
  refine W.widen (k := 0) (n := 0) (Nat.le_of_ble_eq_true rfl) (Nat.le_of_ble_eq_true rfl) ?_
  refine zz_ci (y := 0) hw ?_
  refine lv_if_eq (tgt := 101) hx hb dX12_want_87 (by decide) (fun c_13 => ?_) (fun c_13 => absurd c_13 (by decide))
  refine lv_aload_n hx hb dX12_want_101 rfl (lv_at hl 0 rfl) ?_
  have hPc := hP.sub (ws' := [(h0, .inr (12, (List.set (List.set (List.set (List.set (List.set (List.set (List.set (List.set (List.set (List.set (List.set (List.set (List.set fs 4 (.int 0)) 5 (.int (-1))) 3 (.int 0)) 2 (.int 0)) 7 (.int 0)) 73 (.int 1)) 6 (.int 0)) 7 (.int 1)) 8 (.int 0)) 6 (.int 0)) 7 (.int 0)) 4 (.int 2)) 5 (.int 0))))]) [2] rfl
  have hDc := hD.sub (ws' := [(h0, .inr (12, (List.set (List.set (List.set (List.set (List.set (List.set (List.set (List.set (List.set (List.set (List.set (List.set (List.set fs 4 (.int 0)) 5 (.int (-1))) 3 (.int 0)) 2 (.int 0)) 7 (.int 0)) 73 (.int 1)) 6 (.int 0)) 7 (.int 1)) 8 (.int 0)) 6 (.int 0)) 7 (.int 0)) 4 (.int 2)) 5 (.int 0))))]) [2] (by decide) rfl
  have hKc := hK.sub (tys' := []) [] rfl
  have hFc := va_free (wc := [(h0, .inr (12, (List.set (List.set (List.set (List.set (List.set (List.set (List.set (List.set (List.set (List.set (List.set (List.set (List.set fs 4 (.int 0)) 5 (.int (-1))) 3 (.int 0)) 2 (.int 0)) 7 (.int 0)) 73 (.int 1)) 6 (.int 0)) 7 (.int 1)) 8 (.int 0)) 6 (.int 0)) 7 (.int 0)) 4 (.int 2)) 5 (.int 0))))]) hD hS hA [2] rfl
  refine va_calli (va_runV (As := []) (rest := []) ⟨hx, hb, hml, hown, hts⟩ (c_X12_isGood_2 l dC dI H.size h0 (List.set (List.set (List.set (List.set (List.set (List.set (List.set (List.set (List.set (List.set (List.set (List.set (List.set fs 4 (.int 0)) 5 (.int (-1))) 3 (.int 0)) 2 (.int 0)) 7 (.int 0)) 73 (.int 1)) 6 (.int 0)) 7 (.int 1)) 8 (.int 0)) 6 (.int 0)) 7 (.int 0)) 4 (.int 2)) 5 (.int 0)) (by simp [hn_fs]) (by simp [hn_fs])) (cwV 0 hts g_c_X12_want_c_X12_isGood_2_4 rfl rfl rfl (by decide +kernel) ⟨Nat.le_of_ble_eq_true rfl, Nat.le_of_ble_eq_true rfl⟩) ⟨fun a U g mk q => by obtain ⟨q0, q1, qP, qK, qD⟩ := q; exact ⟨q0, q1, qP, va_K.moved (u := U) (U := U.calling g mk a) (Vm.Alike.refl U.vm) qK, qD⟩, va_recv hKc hPc (ci := 12) (q0 := 0) rfl rfl, fun U hU hW => ⟨rfl, by rw [hU], by rw [hU]; exact hPc, va_K.moved hW.alike hKc, hDc.weaken (fun _ _ _ _ => trivial)⟩⟩ rfl rfl hl.1 rfl (lv_room (Nat.le_of_ble_eq_true rfl)) dX12_want_102 ⟨Nat.le_of_ble_eq_true rfl, Nat.le_of_ble_eq_true rfl⟩) hS (fun q _ h => hFc q h) hFc (fun r_14 u t H1 locs ht hvm hw hB hz1 hk1 hS => ?_)
  obtain ⟨hP1, hD1⟩ := hB
  rw [ht] at hP1
  obtain ⟨hP, hD⟩ := va_join (wr := [(h1, .inl (cI, 2, .inl f_3)), (h2, .inl (cJ, 2, .inl f_4))]) (w1 := [(h0, .inr (12, (List.set (List.set (List.set (List.set (List.set (List.set (List.set (List.set (List.set (List.set (List.set (List.set (List.set fs 4 (.int 0)) 5 (.int (-1))) 3 (.int 0)) 2 (.int 0)) 7 (.int 0)) 73 (.int 1)) 6 (.int 0)) 7 (.int 1)) 8 (.int 0)) 6 (.int 0)) 7 (.int 0)) 4 (.int 2)) 5 (.int 0))))]) hP hD [2] [0, 1] rfl rfl (by decide) (by decide) hk1 hFc hP1 hD1
  generalize H1 = H at hP hS ⊢
  have hP : va_P (dC, dI) vwCl [(h1, .inl (cI, 2, .inl f_3)), (h2, .inl (cJ, 2, .inl f_4)), (h0, .inr (12, (List.set (List.set (List.set (List.set (List.set (List.set (List.set (List.set (List.set (List.set (List.set (List.set (List.set fs 4 (.int 0)) 5 (.int (-1))) 3 (.int 0)) 2 (.int 0)) 7 (.int 0)) 73 (.int 1)) 6 (.int 0)) 7 (.int 1)) 8 (.int 0)) 6 (.int 0)) 7 (.int 0)) 4 (.int 2)) 5 (.int 0))))] H := hP
  have hD : va_D A [(h1, .inl (cI, 2, .inl f_3)), (h2, .inl (cJ, 2, .inl f_4)), (h0, .inr (12, (List.set (List.set (List.set (List.set (List.set (List.set (List.set (List.set (List.set (List.set (List.set (List.set (List.set fs 4 (.int 0)) 5 (.int (-1))) 3 (.int 0)) 2 (.int 0)) 7 (.int 0)) 73 (.int 1)) 6 (.int 0)) 7 (.int 1)) 8 (.int 0)) 6 (.int 0)) 7 (.int 0)) 4 (.int 2)) 5 (.int 0))))] := hD
  refine W.widen (k := 0) (n := 0) (Nat.le_of_ble_eq_true rfl) (Nat.le_of_ble_eq_true rfl) ?_
  refine zz_ci (y := 0) hw ?_
  refine lv_if_ne (tgt := 110) hx hb dX12_want_105 (by decide) (fun c_15 => absurd c_15 (by decide)) (fun c_15 => ?_)
  refine lv_iconst (v := (-1)) hx hb dX12_want_108 (by decide) ?_
  refine W.widen (k := 0) (n := 0) (Nat.le_of_ble_eq_true rfl) (Nat.le_of_ble_eq_true rfl) ?_
  exact W.iret (v := (-1)) hx hb hr (fun t ht hW => ⟨⟨(-1), (), rfl, rfl, trivial⟩, hS.F ht⟩) hS.2.2 dX12_want_109
def u_c_X12_image : List Cond := .code yX12_image cX12_image 3 (some .int) :: ([.code yX12_isIn cX12_isIn 3 (some .boolean), .methodLink RX12 297 yX12_isIn, .static yX12_isIn, .initialized RX12, .fieldLink RX12 146 "CakePapersModel" "boxMany" "[I", .fieldLink RX12 250 "CakePapersModel" "papers" "I", .fieldLink RX12 155 "CakePapersModel" "boxJoining" "[Z", .fieldLink RX12 494 "CakePapersModel" "isJoining" "Z", .fieldLink RX12 149 "CakePapersModel" "boxJoin" "[I", .fieldLink RX12 482 "CakePapersModel" "tBase" "I", .fieldLink RX12 485 "CakePapersModel" "tOne" "I", .fieldLink RX12 488 "CakePapersModel" "tOther" "I", .fieldLink RX12 491 "CakePapersModel" "tMany" "I", .fieldLink RX12 152 "CakePapersModel" "boxSide" "[I", .fieldLink RX12 116 "CakePapersModel" "tSide" "[I"] ++ wsX120)
theorem iX12_c_X12_image : ∀ w ∈ wsX120, w ∈ u_c_X12_image := fun w h => List.mem_cons_of_mem _ (List.mem_append_right _ h)
set_option maxRecDepth 20000 in
theorem g_c_X12_image_c_X12_isIn_0 : GoodIn u_c_X12_image (va_wsS RX12 297 yX12_isIn u_c_X12_isIn) := goodIn_app (goodIn_of _ (by decide +kernel)) (goodIn_of (.code yX12_isIn cX12_isIn 3 (some .boolean) :: []) (by decide +kernel))
set_option maxHeartbeats 1000000 in
set_option maxRecDepth 100000 in
theorem c_X12_image (l : Launch) (dC : Nat → ClassId) (dI : Nat → Nat → Nat) (sz : Nat) (h0 h6 h1 h4 h5 h7 : Nat) (cA1 cA4 cA5 cA6 cA7 : ClassId) (f1 : Nat → Int32) (f4 : Nat → Int32) (f5 : Nat → Int32) (f6 : Nat → Int32) (f7 : Nat → Int32) (fs : List Value) (hn_fs : fs.length = 80) (e_fs_20 : fs[20]? = some (.int 0)) (e_fs_55 : fs[55]? = some (.ref h6)) (e_fs_56 : fs[56]? = some (.int 0)) (e_fs_57 : fs[57]? = some (.int 0)) (e_fs_58 : fs[58]? = some (.int 0)) (e_fs_59 : fs[59]? = some (.int 0)) (e_fs_60 : fs[60]? = some (.int 0)) (e_fs_76 : fs[76]? = some (.ref h1)) (e_fs_77 : fs[77]? = some (.ref h4)) (e_fs_78 : fs[78]? = some (.ref h5)) (e_fs_79 : fs[79]? = some (.ref h7)) (p0 : Int32) : Met l yX12_image u_c_X12_image ({ frames := 1, cells := 0, slots := 0, locals := 22 }) (va_Pc [.ref h0, .int p0] (fun U => U.heap.size = sz ∧ va_P (dC, dI) vwCl [(h0, .inr (12, fs)), (h1, .inl (cA1, 3, .inl f1)), (h4, .inl (cA4, 12, .inl f4)), (h5, .inl (cA5, 480, .inl f5)), (h6, .inl (cA6, 160, .inl f6)), (h7, .inl (cA7, 3, .inl f7))] U.heap ∧ va_K (dC, dI) vwCl [(cA1, .int), (cA4, .int), (cA5, .int), (cA6, .int), (cA7, .boolean)] U ∧ va_D (fun _ => True) [(h0, .inr (12, fs)), (h1, .inl (cA1, 3, .inl f1)), (h4, .inl (cA4, 12, .inl f4)), (h5, .inl (cA5, 480, .inl f5)), (h6, .inl (cA6, 160, .inl f6)), (h7, .inl (cA7, 3, .inl f7))])) (va_Qi (fun (r : Int32) (_ : Unit) => r = zz_im p0) (fun _ _ => True) (va_A [(h0, .inr (12, fs)), (h1, .inl (cA1, 3, .inl f1)), (h4, .inl (cA4, 12, .inl f4)), (h5, .inl (cA5, 480, .inl f5)), (h6, .inl (cA6, 160, .inl f6)), (h7, .inl (cA7, 3, .inl f7))] sz)) 0 0 (va_A [(h0, .inr (12, fs)), (h1, .inl (cA1, 3, .inl f1)), (h4, .inl (cA4, 12, .inl f4)), (h5, .inl (cA5, 480, .inl f5)), (h6, .inl (cA6, 160, .inl f6)), (h7, .inl (cA7, 3, .inl f7))] sz) := by
  refine Met.ofW (cc := cX12_image) (maxL := 3) (ret := (some .int)) (by decide) rfl ?_
  intro p e s m args below meth c s₁ B hml hv
  obtain ⟨rfl, hsz, hP, hK, hD0⟩ := hv
  have hx := B.exec
  have hb := B.bytes
  have hr := B.returns
  have hts := atoms_spec (ws := u_c_X12_image) B.pre
  have hown : s.vm.findClass RX12 = some m.cls := findClass_of_methodNamed B.named
  have hlocks := B.notSynchronized
  have hiX12 := iX12_c_X12_image
  subst hsz
  have hD := hD0.self (sz := s.heap.size)
  generalize hAe : va_A [(h0, .inr (12, fs)), (h1, .inl (cA1, 3, .inl f1)), (h4, .inl (cA4, 12, .inl f4)), (h5, .inl (cA5, 480, .inl f5)), (h6, .inl (cA6, 160, .inl f6)), (h7, .inl (cA7, 3, .inl f7))] s.heap.size = A at hD ⊢
  have hA : ∀ q : Nat, s.heap.size ≤ q → A q := fun q h => by rw [← hAe]; exact Or.inr h
  have hS : va_S A s.heap s.heap [] := va_S.rf
  obtain ⟨H, hH⟩ : ∃ H : Heap, H = s.heap := ⟨_, rfl⟩
  have hP : va_P (dC, dI) vwCl [(h0, .inr (12, fs)), (h1, .inl (cA1, 3, .inl f1)), (h4, .inl (cA4, 12, .inl f4)), (h5, .inl (cA5, 480, .inl f5)), (h6, .inl (cA6, 160, .inl f6)), (h7, .inl (cA7, 3, .inl f7))] H := by rw [hH]; exact hP
  have hS : va_S A s.heap H [] := by rw [hH]; exact hS
  have hl := lv_entry ([.ref h0, .int p0]) (n := 3) (Nat.le_of_ble_eq_true rfl)
  rw [lg_entry_eq]
  generalize (lg_sl ([.ref h0, .int p0]) ++ List.replicate (3 - (lg_sl ([.ref h0, .int p0])).length) Slot.unset).toArray = ls at hl ⊢
  have hl : lv_has ls 3 [(0, .ref h0), (1, .int p0)] := hl
  suffices h9 : W p l e (headSpec u_c_X12_image _).room s m _ below meth c H [] 0 0 _ (F0 m 0 ls []) by rw [hH] at h9; exact h9
  refine lv_iload_n hx hb dX12_image_0 rfl (lv_at hl 1 rfl) ?_
  refine lv_iconst (v := 0) hx hb dX12_image_1 (by decide) ?_
  refine lv_iconst (v := 2) hx hb dX12_image_2 (by decide) ?_
  have hPc := hP.sub (ws' := []) [] rfl
  have hDc := hD.sub (ws' := []) [] (by decide) rfl
  have hKc := hK.sub (tys' := []) [] rfl
  have hFc := va_free (wc := []) hD hS hA [] rfl
  refine va_calli (va_runS (As := [.int p0, .int 0, .int 2]) (rest := []) ⟨hx, hb, hml, hown, hts⟩ (c_X12_isIn l dC dI H.size p0 0 2) (va_cwS 3 hts g_c_X12_image_c_X12_isIn_0 rfl rfl rfl (by decide +kernel) ⟨Nat.le_of_ble_eq_true rfl, Nat.le_of_ble_eq_true rfl⟩) ⟨fun a U g mk q => by obtain ⟨q0, q1, qP, qK, qD⟩ := q; exact ⟨q0, q1, qP, va_K.moved (u := U) (U := U.calling g mk a) (Vm.Alike.refl U.vm) qK, qD⟩, fun U hU hW => ⟨rfl, by rw [hU], by rw [hU]; exact hPc, va_K.moved hW.alike hKc, hDc.weaken (fun _ _ _ _ => trivial)⟩⟩ rfl rfl hl.1 rfl (lv_room (Nat.le_of_ble_eq_true rfl)) dX12_image_3 ⟨Nat.le_of_ble_eq_true rfl, Nat.le_of_ble_eq_true rfl⟩) hS (fun q _ h => hFc q h) hFc (fun r_1 u t H1 locs ht hvm hw hB hz1 hk1 hS => ?_)
  obtain ⟨hP1, hD1⟩ := hB
  rw [ht] at hP1
  obtain ⟨hP, hD⟩ := va_join (wr := [(h0, .inr (12, fs)), (h1, .inl (cA1, 3, .inl f1)), (h4, .inl (cA4, 12, .inl f4)), (h5, .inl (cA5, 480, .inl f5)), (h6, .inl (cA6, 160, .inl f6)), (h7, .inl (cA7, 3, .inl f7))]) (w1 := []) hP hD [] [0, 1, 2, 3, 4, 5] rfl rfl (by decide) (by decide) hk1 hFc hP1 hD1
  generalize H1 = H at hP hS ⊢
  have hP : va_P (dC, dI) vwCl [(h0, .inr (12, fs)), (h1, .inl (cA1, 3, .inl f1)), (h4, .inl (cA4, 12, .inl f4)), (h5, .inl (cA5, 480, .inl f5)), (h6, .inl (cA6, 160, .inl f6)), (h7, .inl (cA7, 3, .inl f7))] H := hP
  have hD : va_D A [(h0, .inr (12, fs)), (h1, .inl (cA1, 3, .inl f1)), (h4, .inl (cA4, 12, .inl f4)), (h5, .inl (cA5, 480, .inl f5)), (h6, .inl (cA6, 160, .inl f6)), (h7, .inl (cA7, 3, .inl f7))] := hD
  refine W.widen (k := 0) (n := 0) (Nat.le_of_ble_eq_true rfl) (Nat.le_of_ble_eq_true rfl) ?_
  have w_1 := hw
  refine lv_if_ne (tgt := 11) hx hb dX12_image_6 (by decide) (fun c_2 => ?_) (fun c_2 => ?_)
  · rcases zz_b3 w_1 c_2 with h_b | h_b | h_b
    · subst h_b
      refine lv_aload_n hx hb dX12_image_11 rfl (lv_at hl 0 rfl) ?_
      refine va_get (D := (dC, dI)) (ci := 12) (v := .ref h1) (C := RX12) (T := TX12) (N := 80) hx hb hts hiX12 hown hK hP 0 rfl rfl 76 (by decide) (hts (.fieldLink RX12 146 "CakePapersModel" "boxMany" "[I") (by decide +kernel)) (fun _ h9 => h9) e_fs_76 dX12_image_12 ?_
      refine lv_iload_n hx hb dX12_image_15 rfl (lv_at hl 1 rfl) ?_
      refine lv_aload_n hx hb dX12_image_16 rfl (lv_at hl 0 rfl) ?_
      refine va_get (D := (dC, dI)) (ci := 12) (v := .int 0) (C := RX12) (T := TX12) (N := 80) hx hb hts hiX12 hown hK hP 0 rfl rfl 20 (by decide) (hts (.fieldLink RX12 250 "CakePapersModel" "papers" "I") (by decide +kernel)) (fun _ h9 => h9) e_fs_20 dX12_image_17 ?_
      refine va_iast hx hb hK hP hD hS 1 0 rfl rfl (zz_in (by decide)) dX12_image_20 (fun H locs hP hD hS => ?_)
      obtain ⟨f_3, hP, hD⟩ : ∃ f_3 : Nat → Int32, va_P (dC, dI) vwCl [(h0, .inr (12, fs)), (h1, .inl (cA1, 3, .inl f_3)), (h4, .inl (cA4, 12, .inl f4)), (h5, .inl (cA5, 480, .inl f5)), (h6, .inl (cA6, 160, .inl f6)), (h7, .inl (cA7, 3, .inl f7))] H ∧ va_D A [(h0, .inr (12, fs)), (h1, .inl (cA1, 3, .inl f_3)), (h4, .inl (cA4, 12, .inl f4)), (h5, .inl (cA5, 480, .inl f5)), (h6, .inl (cA6, 160, .inl f6)), (h7, .inl (cA7, 3, .inl f7))] := ⟨_, hP, hD⟩
      refine lv_iconst (v := 0) hx hb dX12_image_21 (by decide) ?_
      refine lv_istore_n (lv' := [(2, .int 0), (0, .ref h0), (1, .int 0)]) hx hb dX12_image_22 rfl hl (by decide) rfl (fun ls hl => ?_)
      refine lv_iload_n hx hb dX12_image_23 rfl (lv_at hl 0 rfl) ?_
      refine lv_aload_n hx hb dX12_image_24 rfl (lv_at hl 1 rfl) ?_
      refine va_get (D := (dC, dI)) (ci := 12) (v := .int 0) (C := RX12) (T := TX12) (N := 80) hx hb hts hiX12 hown hK hP 0 rfl rfl 20 (by decide) (hts (.fieldLink RX12 250 "CakePapersModel" "papers" "I") (by decide +kernel)) (fun _ h9 => h9) e_fs_20 dX12_image_25 ?_
      refine lv_icmp_ge (tgt := 44) hx hb dX12_image_28 (by decide) (fun c_4 => ?_) (fun c_4 => absurd c_4 (by decide))
      refine lv_aload_n hx hb dX12_image_44 rfl (lv_at hl 1 rfl) ?_
      refine va_get (D := (dC, dI)) (ci := 12) (v := .ref h7) (C := RX12) (T := TX12) (N := 80) hx hb hts hiX12 hown hK hP 0 rfl rfl 79 (by decide) (hts (.fieldLink RX12 155 "CakePapersModel" "boxJoining" "[Z") (by decide +kernel)) (fun _ h9 => h9) e_fs_79 dX12_image_45 ?_
      refine lv_iload_n hx hb dX12_image_48 rfl (lv_at hl 2 rfl) ?_
      refine lv_aload_n hx hb dX12_image_49 rfl (lv_at hl 1 rfl) ?_
      refine va_get (D := (dC, dI)) (ci := 12) (v := .int 0) (C := RX12) (T := TX12) (N := 80) hx hb hts hiX12 hown hK hP 0 rfl rfl 60 (by decide) (hts (.fieldLink RX12 494 "CakePapersModel" "isJoining" "Z") (by decide +kernel)) (fun _ h9 => h9) e_fs_60 dX12_image_50 ?_
      refine va_zast hx hb hK hP hD hS 5 4 rfl rfl (zz_in (by decide)) dX12_image_53 (fun H locs hP hD hS => ?_)
      obtain ⟨f_5, hP, hD⟩ : ∃ f_5 : Nat → Int32, va_P (dC, dI) vwCl [(h0, .inr (12, fs)), (h1, .inl (cA1, 3, .inl f_3)), (h4, .inl (cA4, 12, .inl f4)), (h5, .inl (cA5, 480, .inl f5)), (h6, .inl (cA6, 160, .inl f6)), (h7, .inl (cA7, 3, .inl f_5))] H ∧ va_D A [(h0, .inr (12, fs)), (h1, .inl (cA1, 3, .inl f_3)), (h4, .inl (cA4, 12, .inl f4)), (h5, .inl (cA5, 480, .inl f5)), (h6, .inl (cA6, 160, .inl f6)), (h7, .inl (cA7, 3, .inl f_5))] := ⟨_, hP, hD⟩
      refine lv_aload_n hx hb dX12_image_54 rfl (lv_at hl 1 rfl) ?_
      refine va_get (D := (dC, dI)) (ci := 12) (v := .ref h4) (C := RX12) (T := TX12) (N := 80) hx hb hts hiX12 hown hK hP 0 rfl rfl 77 (by decide) (hts (.fieldLink RX12 149 "CakePapersModel" "boxJoin" "[I") (by decide +kernel)) (fun _ h9 => h9) e_fs_77 dX12_image_55 ?_
      refine lv_iconst (v := 4) hx hb dX12_image_58 (by decide) ?_
      refine lv_iload_n hx hb dX12_image_59 rfl (lv_at hl 2 rfl) ?_
      refine lv_imul hx hb dX12_image_60 ?_
      refine zz_ci (y := 0) (by decide) ?_
      refine lv_aload_n hx hb dX12_image_61 rfl (lv_at hl 1 rfl) ?_
      refine va_get (D := (dC, dI)) (ci := 12) (v := .int 0) (C := RX12) (T := TX12) (N := 80) hx hb hts hiX12 hown hK hP 0 rfl rfl 56 (by decide) (hts (.fieldLink RX12 482 "CakePapersModel" "tBase" "I") (by decide +kernel)) (fun _ h9 => h9) e_fs_56 dX12_image_62 ?_
      refine va_iast hx hb hK hP hD hS 2 1 rfl rfl (zz_in (by decide)) dX12_image_65 (fun H locs hP hD hS => ?_)
      obtain ⟨f_6, hP, hD⟩ : ∃ f_6 : Nat → Int32, va_P (dC, dI) vwCl [(h0, .inr (12, fs)), (h1, .inl (cA1, 3, .inl f_3)), (h4, .inl (cA4, 12, .inl f_6)), (h5, .inl (cA5, 480, .inl f5)), (h6, .inl (cA6, 160, .inl f6)), (h7, .inl (cA7, 3, .inl f_5))] H ∧ va_D A [(h0, .inr (12, fs)), (h1, .inl (cA1, 3, .inl f_3)), (h4, .inl (cA4, 12, .inl f_6)), (h5, .inl (cA5, 480, .inl f5)), (h6, .inl (cA6, 160, .inl f6)), (h7, .inl (cA7, 3, .inl f_5))] := ⟨_, hP, hD⟩
      refine lv_aload_n hx hb dX12_image_66 rfl (lv_at hl 1 rfl) ?_
      refine va_get (D := (dC, dI)) (ci := 12) (v := .ref h4) (C := RX12) (T := TX12) (N := 80) hx hb hts hiX12 hown hK hP 0 rfl rfl 77 (by decide) (hts (.fieldLink RX12 149 "CakePapersModel" "boxJoin" "[I") (by decide +kernel)) (fun _ h9 => h9) e_fs_77 dX12_image_67 ?_
      refine lv_iconst (v := 4) hx hb dX12_image_70 (by decide) ?_
      refine lv_iload_n hx hb dX12_image_71 rfl (lv_at hl 2 rfl) ?_
      refine lv_imul hx hb dX12_image_72 ?_
      refine zz_ci (y := 0) (by decide) ?_
      refine lv_iconst (v := 1) hx hb dX12_image_73 (by decide) ?_
      refine lv_iadd hx hb dX12_image_74 ?_
      refine zz_ci (y := 1) (by decide) ?_
      refine lv_aload_n hx hb dX12_image_75 rfl (lv_at hl 1 rfl) ?_
      refine va_get (D := (dC, dI)) (ci := 12) (v := .int 0) (C := RX12) (T := TX12) (N := 80) hx hb hts hiX12 hown hK hP 0 rfl rfl 57 (by decide) (hts (.fieldLink RX12 485 "CakePapersModel" "tOne" "I") (by decide +kernel)) (fun _ h9 => h9) e_fs_57 dX12_image_76 ?_
      refine va_iast hx hb hK hP hD hS 2 1 rfl rfl (zz_in (by decide)) dX12_image_79 (fun H locs hP hD hS => ?_)
      obtain ⟨f_7, hP, hD⟩ : ∃ f_7 : Nat → Int32, va_P (dC, dI) vwCl [(h0, .inr (12, fs)), (h1, .inl (cA1, 3, .inl f_3)), (h4, .inl (cA4, 12, .inl f_7)), (h5, .inl (cA5, 480, .inl f5)), (h6, .inl (cA6, 160, .inl f6)), (h7, .inl (cA7, 3, .inl f_5))] H ∧ va_D A [(h0, .inr (12, fs)), (h1, .inl (cA1, 3, .inl f_3)), (h4, .inl (cA4, 12, .inl f_7)), (h5, .inl (cA5, 480, .inl f5)), (h6, .inl (cA6, 160, .inl f6)), (h7, .inl (cA7, 3, .inl f_5))] := ⟨_, hP, hD⟩
      refine lv_aload_n hx hb dX12_image_80 rfl (lv_at hl 1 rfl) ?_
      refine va_get (D := (dC, dI)) (ci := 12) (v := .ref h4) (C := RX12) (T := TX12) (N := 80) hx hb hts hiX12 hown hK hP 0 rfl rfl 77 (by decide) (hts (.fieldLink RX12 149 "CakePapersModel" "boxJoin" "[I") (by decide +kernel)) (fun _ h9 => h9) e_fs_77 dX12_image_81 ?_
      refine lv_iconst (v := 4) hx hb dX12_image_84 (by decide) ?_
      refine lv_iload_n hx hb dX12_image_85 rfl (lv_at hl 2 rfl) ?_
      refine lv_imul hx hb dX12_image_86 ?_
      refine zz_ci (y := 0) (by decide) ?_
      refine lv_iconst (v := 2) hx hb dX12_image_87 (by decide) ?_
      refine lv_iadd hx hb dX12_image_88 ?_
      refine zz_ci (y := 2) (by decide) ?_
      refine lv_aload_n hx hb dX12_image_89 rfl (lv_at hl 1 rfl) ?_
      refine va_get (D := (dC, dI)) (ci := 12) (v := .int 0) (C := RX12) (T := TX12) (N := 80) hx hb hts hiX12 hown hK hP 0 rfl rfl 58 (by decide) (hts (.fieldLink RX12 488 "CakePapersModel" "tOther" "I") (by decide +kernel)) (fun _ h9 => h9) e_fs_58 dX12_image_90 ?_
      refine va_iast hx hb hK hP hD hS 2 1 rfl rfl (zz_in (by decide)) dX12_image_93 (fun H locs hP hD hS => ?_)
      obtain ⟨f_8, hP, hD⟩ : ∃ f_8 : Nat → Int32, va_P (dC, dI) vwCl [(h0, .inr (12, fs)), (h1, .inl (cA1, 3, .inl f_3)), (h4, .inl (cA4, 12, .inl f_8)), (h5, .inl (cA5, 480, .inl f5)), (h6, .inl (cA6, 160, .inl f6)), (h7, .inl (cA7, 3, .inl f_5))] H ∧ va_D A [(h0, .inr (12, fs)), (h1, .inl (cA1, 3, .inl f_3)), (h4, .inl (cA4, 12, .inl f_8)), (h5, .inl (cA5, 480, .inl f5)), (h6, .inl (cA6, 160, .inl f6)), (h7, .inl (cA7, 3, .inl f_5))] := ⟨_, hP, hD⟩
      refine lv_aload_n hx hb dX12_image_94 rfl (lv_at hl 1 rfl) ?_
      refine va_get (D := (dC, dI)) (ci := 12) (v := .ref h4) (C := RX12) (T := TX12) (N := 80) hx hb hts hiX12 hown hK hP 0 rfl rfl 77 (by decide) (hts (.fieldLink RX12 149 "CakePapersModel" "boxJoin" "[I") (by decide +kernel)) (fun _ h9 => h9) e_fs_77 dX12_image_95 ?_
      refine lv_iconst (v := 4) hx hb dX12_image_98 (by decide) ?_
      refine lv_iload_n hx hb dX12_image_99 rfl (lv_at hl 2 rfl) ?_
      refine lv_imul hx hb dX12_image_100 ?_
      refine zz_ci (y := 0) (by decide) ?_
      refine lv_iconst (v := 3) hx hb dX12_image_101 (by decide) ?_
      refine lv_iadd hx hb dX12_image_102 ?_
      refine zz_ci (y := 3) (by decide) ?_
      refine lv_aload_n hx hb dX12_image_103 rfl (lv_at hl 1 rfl) ?_
      refine va_get (D := (dC, dI)) (ci := 12) (v := .int 0) (C := RX12) (T := TX12) (N := 80) hx hb hts hiX12 hown hK hP 0 rfl rfl 59 (by decide) (hts (.fieldLink RX12 491 "CakePapersModel" "tMany" "I") (by decide +kernel)) (fun _ h9 => h9) e_fs_59 dX12_image_104 ?_
      refine va_iast hx hb hK hP hD hS 2 1 rfl rfl (zz_in (by decide)) dX12_image_107 (fun H locs hP hD hS => ?_)
      obtain ⟨f_9, hP, hD⟩ : ∃ f_9 : Nat → Int32, va_P (dC, dI) vwCl [(h0, .inr (12, fs)), (h1, .inl (cA1, 3, .inl f_3)), (h4, .inl (cA4, 12, .inl f_9)), (h5, .inl (cA5, 480, .inl f5)), (h6, .inl (cA6, 160, .inl f6)), (h7, .inl (cA7, 3, .inl f_5))] H ∧ va_D A [(h0, .inr (12, fs)), (h1, .inl (cA1, 3, .inl f_3)), (h4, .inl (cA4, 12, .inl f_9)), (h5, .inl (cA5, 480, .inl f5)), (h6, .inl (cA6, 160, .inl f6)), (h7, .inl (cA7, 3, .inl f_5))] := ⟨_, hP, hD⟩
      refine lv_iconst (v := 0) hx hb dX12_image_108 (by decide) ?_
      refine lv_istore_n (lv' := [(2, .int 0), (0, .ref h0), (1, .int 0)]) hx hb dX12_image_109 rfl hl (by decide) rfl (fun ls hl => ?_)
      have key : ∀ (n i : Nat), i + n = 160 → ∀ (fz : Nat → Int32) (H : Heap) (locs : List Loc), va_P (dC, dI) vwCl [(h0, .inr (12, fs)), (h1, .inl (cA1, 3, .inl f_3)), (h4, .inl (cA4, 12, .inl f_9)), (h5, .inl (cA5, 480, .inl fz)), (h6, .inl (cA6, 160, .inl f6)), (h7, .inl (cA7, 3, .inl f_5))] H → va_D A [(h0, .inr (12, fs)), (h1, .inl (cA1, 3, .inl f_3)), (h4, .inl (cA4, 12, .inl f_9)), (h5, .inl (cA5, 480, .inl fz)), (h6, .inl (cA6, 160, .inl f6)), (h7, .inl (cA7, 3, .inl f_5))] → va_S A s.heap H locs → ∀ (ls : Array Slot), lv_has ls 3 [(2, .int (nI i)), (0, .ref h0), (1, .int 0)] → W p l e (headSpec u_c_X12_image ({ frames := 1, cells := 0, slots := 0, locals := 22 })).room s m ([.ref h0, .int 0] : List Value).toArray below meth c H locs 0 0 (MQ below (va_Qi (fun (r : Int32) (_ : Unit) => r = zz_im 0) (fun _ _ => True) A) ([.ref h0, .int 0] : List Value).toArray s 0 0 A) (F0 m 110 ls []) := by
        intro n
        induction n with
        | zero =>
          intro i hi fz H locs hP hD hS ls hl
          have hi : i = 160 := by omega
          subst hi
          refine lv_iload_n hx hb dX12_image_110 rfl (lv_at hl 0 rfl) ?_
          refine lv_sipush (v := 160) hx hb dX12_image_111 (by decide) ?_
          refine lv_icmp_ge (tgt := 141) hx hb dX12_image_114 (by decide) (fun c_0 => ?_) (fun c_0 => absurd (by decide) c_0)
          refine lv_aload_n hx hb dX12_image_141 rfl (lv_at hl 1 rfl) ?_
          refine va_get (D := (dC, dI)) (ci := 12) (v := .int 0) (C := RX12) (T := TX12) (N := 80) hx hb hts hiX12 hown hK hP 0 rfl rfl 20 (by decide) (hts (.fieldLink RX12 250 "CakePapersModel" "papers" "I") (by decide +kernel)) (fun _ h9 => h9) e_fs_20 dX12_image_142 ?_
          refine W.widen (k := 0) (n := 0) (Nat.le_of_ble_eq_true rfl) (Nat.le_of_ble_eq_true rfl) ?_
          exact W.iret (v := 0) hx hb hr (fun t ht hW => ⟨⟨0, (), rfl, (by decide), trivial⟩, hS.F ht⟩) hS.2.2 dX12_image_145
        | succ n ih =>
          intro i hi fz H locs hP hD hS ls hl
          have hlt : i < 160 := by omega
          refine lv_iload_n hx hb dX12_image_110 rfl (lv_at hl 0 rfl) ?_
          refine lv_sipush (v := 160) hx hb dX12_image_111 (by decide) ?_
          refine lv_icmp_ge (tgt := 141) hx hb dX12_image_114 (by decide) (fun c_0 => absurd c_0 (nI_ge hlt (by decide))) (fun c_0 => ?_)
          refine lv_aload_n hx hb dX12_image_117 rfl (lv_at hl 1 rfl) ?_
          refine va_get (D := (dC, dI)) (ci := 12) (v := .ref h5) (C := RX12) (T := TX12) (N := 80) hx hb hts hiX12 hown hK hP 0 rfl rfl 78 (by decide) (hts (.fieldLink RX12 152 "CakePapersModel" "boxSide" "[I") (by decide +kernel)) (fun _ h9 => h9) e_fs_78 dX12_image_118 ?_
          refine lv_sipush (v := 160) hx hb dX12_image_121 (by decide) ?_
          refine lv_iload_n hx hb dX12_image_124 rfl (lv_at hl 2 rfl) ?_
          refine lv_imul hx hb dX12_image_125 ?_
          refine zz_ci (y := 0) (by decide) ?_
          refine lv_iload_n hx hb dX12_image_126 rfl (lv_at hl 0 rfl) ?_
          refine lv_iadd hx hb dX12_image_127 ?_
          refine lv_aload_n hx hb dX12_image_128 rfl (lv_at hl 1 rfl) ?_
          refine va_get (D := (dC, dI)) (ci := 12) (v := .ref h6) (C := RX12) (T := TX12) (N := 80) hx hb hts hiX12 hown hK hP 0 rfl rfl 55 (by decide) (hts (.fieldLink RX12 116 "CakePapersModel" "tSide" "[I") (by decide +kernel)) (fun _ h9 => h9) e_fs_55 dX12_image_129 ?_
          refine lv_iload_n hx hb dX12_image_132 rfl (lv_at hl 0 rfl) ?_
          refine va_iald hx hb hK hP 4 3 rfl rfl (vp_in_nI hlt (by decide)) dX12_image_133 ?_
          refine lv_topi (fun v_10 _ => ?_)
          refine va_iast hx hb hK hP hD hS 3 2 rfl rfl (zz_im0 hlt) dX12_image_134 (fun H locs hP hD hS => ?_)
          obtain ⟨f_11, hP, hD⟩ : ∃ f_11 : Nat → Int32, va_P (dC, dI) vwCl [(h0, .inr (12, fs)), (h1, .inl (cA1, 3, .inl f_3)), (h4, .inl (cA4, 12, .inl f_9)), (h5, .inl (cA5, 480, .inl f_11)), (h6, .inl (cA6, 160, .inl f6)), (h7, .inl (cA7, 3, .inl f_5))] H ∧ va_D A [(h0, .inr (12, fs)), (h1, .inl (cA1, 3, .inl f_3)), (h4, .inl (cA4, 12, .inl f_9)), (h5, .inl (cA5, 480, .inl f_11)), (h6, .inl (cA6, 160, .inl f6)), (h7, .inl (cA7, 3, .inl f_5))] := ⟨_, hP, hD⟩
          refine lv_iinc (v := ((nI i) + 1)) (lv' := [(2, .int ((nI i) + 1)), (0, .ref h0), (1, .int 0)]) hx hb dX12_image_135 hl (k := 0) rfl rfl (by decide) rfl (fun ls hl => ?_)
          refine lv_goto (tgt := 110) hx hb dX12_image_138 (by decide) ?_
          exact ih (i + 1) (by omega) f_11 H locs hP hD hS ls (by rw [← nI_1]; exact hl)
      exact key 160 0 rfl f5 H locs hP hD hS ls hl
    · subst h_b
      refine lv_aload_n hx hb dX12_image_11 rfl (lv_at hl 0 rfl) ?_
      refine va_get (D := (dC, dI)) (ci := 12) (v := .ref h1) (C := RX12) (T := TX12) (N := 80) hx hb hts hiX12 hown hK hP 0 rfl rfl 76 (by decide) (hts (.fieldLink RX12 146 "CakePapersModel" "boxMany" "[I") (by decide +kernel)) (fun _ h9 => h9) e_fs_76 dX12_image_12 ?_
      refine lv_iload_n hx hb dX12_image_15 rfl (lv_at hl 1 rfl) ?_
      refine lv_aload_n hx hb dX12_image_16 rfl (lv_at hl 0 rfl) ?_
      refine va_get (D := (dC, dI)) (ci := 12) (v := .int 0) (C := RX12) (T := TX12) (N := 80) hx hb hts hiX12 hown hK hP 0 rfl rfl 20 (by decide) (hts (.fieldLink RX12 250 "CakePapersModel" "papers" "I") (by decide +kernel)) (fun _ h9 => h9) e_fs_20 dX12_image_17 ?_
      refine va_iast hx hb hK hP hD hS 1 0 rfl rfl (zz_in (by decide)) dX12_image_20 (fun H locs hP hD hS => ?_)
      obtain ⟨f_12, hP, hD⟩ : ∃ f_12 : Nat → Int32, va_P (dC, dI) vwCl [(h0, .inr (12, fs)), (h1, .inl (cA1, 3, .inl f_12)), (h4, .inl (cA4, 12, .inl f4)), (h5, .inl (cA5, 480, .inl f5)), (h6, .inl (cA6, 160, .inl f6)), (h7, .inl (cA7, 3, .inl f7))] H ∧ va_D A [(h0, .inr (12, fs)), (h1, .inl (cA1, 3, .inl f_12)), (h4, .inl (cA4, 12, .inl f4)), (h5, .inl (cA5, 480, .inl f5)), (h6, .inl (cA6, 160, .inl f6)), (h7, .inl (cA7, 3, .inl f7))] := ⟨_, hP, hD⟩
      refine lv_iconst (v := 0) hx hb dX12_image_21 (by decide) ?_
      refine lv_istore_n (lv' := [(2, .int 0), (0, .ref h0), (1, .int 1)]) hx hb dX12_image_22 rfl hl (by decide) rfl (fun ls hl => ?_)
      refine lv_iload_n hx hb dX12_image_23 rfl (lv_at hl 0 rfl) ?_
      refine lv_aload_n hx hb dX12_image_24 rfl (lv_at hl 1 rfl) ?_
      refine va_get (D := (dC, dI)) (ci := 12) (v := .int 0) (C := RX12) (T := TX12) (N := 80) hx hb hts hiX12 hown hK hP 0 rfl rfl 20 (by decide) (hts (.fieldLink RX12 250 "CakePapersModel" "papers" "I") (by decide +kernel)) (fun _ h9 => h9) e_fs_20 dX12_image_25 ?_
      refine lv_icmp_ge (tgt := 44) hx hb dX12_image_28 (by decide) (fun c_13 => ?_) (fun c_13 => absurd c_13 (by decide))
      refine lv_aload_n hx hb dX12_image_44 rfl (lv_at hl 1 rfl) ?_
      refine va_get (D := (dC, dI)) (ci := 12) (v := .ref h7) (C := RX12) (T := TX12) (N := 80) hx hb hts hiX12 hown hK hP 0 rfl rfl 79 (by decide) (hts (.fieldLink RX12 155 "CakePapersModel" "boxJoining" "[Z") (by decide +kernel)) (fun _ h9 => h9) e_fs_79 dX12_image_45 ?_
      refine lv_iload_n hx hb dX12_image_48 rfl (lv_at hl 2 rfl) ?_
      refine lv_aload_n hx hb dX12_image_49 rfl (lv_at hl 1 rfl) ?_
      refine va_get (D := (dC, dI)) (ci := 12) (v := .int 0) (C := RX12) (T := TX12) (N := 80) hx hb hts hiX12 hown hK hP 0 rfl rfl 60 (by decide) (hts (.fieldLink RX12 494 "CakePapersModel" "isJoining" "Z") (by decide +kernel)) (fun _ h9 => h9) e_fs_60 dX12_image_50 ?_
      refine va_zast hx hb hK hP hD hS 5 4 rfl rfl (zz_in (by decide)) dX12_image_53 (fun H locs hP hD hS => ?_)
      obtain ⟨f_14, hP, hD⟩ : ∃ f_14 : Nat → Int32, va_P (dC, dI) vwCl [(h0, .inr (12, fs)), (h1, .inl (cA1, 3, .inl f_12)), (h4, .inl (cA4, 12, .inl f4)), (h5, .inl (cA5, 480, .inl f5)), (h6, .inl (cA6, 160, .inl f6)), (h7, .inl (cA7, 3, .inl f_14))] H ∧ va_D A [(h0, .inr (12, fs)), (h1, .inl (cA1, 3, .inl f_12)), (h4, .inl (cA4, 12, .inl f4)), (h5, .inl (cA5, 480, .inl f5)), (h6, .inl (cA6, 160, .inl f6)), (h7, .inl (cA7, 3, .inl f_14))] := ⟨_, hP, hD⟩
      refine lv_aload_n hx hb dX12_image_54 rfl (lv_at hl 1 rfl) ?_
      refine va_get (D := (dC, dI)) (ci := 12) (v := .ref h4) (C := RX12) (T := TX12) (N := 80) hx hb hts hiX12 hown hK hP 0 rfl rfl 77 (by decide) (hts (.fieldLink RX12 149 "CakePapersModel" "boxJoin" "[I") (by decide +kernel)) (fun _ h9 => h9) e_fs_77 dX12_image_55 ?_
      refine lv_iconst (v := 4) hx hb dX12_image_58 (by decide) ?_
      refine lv_iload_n hx hb dX12_image_59 rfl (lv_at hl 2 rfl) ?_
      refine lv_imul hx hb dX12_image_60 ?_
      refine zz_ci (y := 4) (by decide) ?_
      refine lv_aload_n hx hb dX12_image_61 rfl (lv_at hl 1 rfl) ?_
      refine va_get (D := (dC, dI)) (ci := 12) (v := .int 0) (C := RX12) (T := TX12) (N := 80) hx hb hts hiX12 hown hK hP 0 rfl rfl 56 (by decide) (hts (.fieldLink RX12 482 "CakePapersModel" "tBase" "I") (by decide +kernel)) (fun _ h9 => h9) e_fs_56 dX12_image_62 ?_
      refine va_iast hx hb hK hP hD hS 2 1 rfl rfl (zz_in (by decide)) dX12_image_65 (fun H locs hP hD hS => ?_)
      obtain ⟨f_15, hP, hD⟩ : ∃ f_15 : Nat → Int32, va_P (dC, dI) vwCl [(h0, .inr (12, fs)), (h1, .inl (cA1, 3, .inl f_12)), (h4, .inl (cA4, 12, .inl f_15)), (h5, .inl (cA5, 480, .inl f5)), (h6, .inl (cA6, 160, .inl f6)), (h7, .inl (cA7, 3, .inl f_14))] H ∧ va_D A [(h0, .inr (12, fs)), (h1, .inl (cA1, 3, .inl f_12)), (h4, .inl (cA4, 12, .inl f_15)), (h5, .inl (cA5, 480, .inl f5)), (h6, .inl (cA6, 160, .inl f6)), (h7, .inl (cA7, 3, .inl f_14))] := ⟨_, hP, hD⟩
      refine lv_aload_n hx hb dX12_image_66 rfl (lv_at hl 1 rfl) ?_
      refine va_get (D := (dC, dI)) (ci := 12) (v := .ref h4) (C := RX12) (T := TX12) (N := 80) hx hb hts hiX12 hown hK hP 0 rfl rfl 77 (by decide) (hts (.fieldLink RX12 149 "CakePapersModel" "boxJoin" "[I") (by decide +kernel)) (fun _ h9 => h9) e_fs_77 dX12_image_67 ?_
      refine lv_iconst (v := 4) hx hb dX12_image_70 (by decide) ?_
      refine lv_iload_n hx hb dX12_image_71 rfl (lv_at hl 2 rfl) ?_
      refine lv_imul hx hb dX12_image_72 ?_
      refine zz_ci (y := 4) (by decide) ?_
      refine lv_iconst (v := 1) hx hb dX12_image_73 (by decide) ?_
      refine lv_iadd hx hb dX12_image_74 ?_
      refine zz_ci (y := 5) (by decide) ?_
      refine lv_aload_n hx hb dX12_image_75 rfl (lv_at hl 1 rfl) ?_
      refine va_get (D := (dC, dI)) (ci := 12) (v := .int 0) (C := RX12) (T := TX12) (N := 80) hx hb hts hiX12 hown hK hP 0 rfl rfl 57 (by decide) (hts (.fieldLink RX12 485 "CakePapersModel" "tOne" "I") (by decide +kernel)) (fun _ h9 => h9) e_fs_57 dX12_image_76 ?_
      refine va_iast hx hb hK hP hD hS 2 1 rfl rfl (zz_in (by decide)) dX12_image_79 (fun H locs hP hD hS => ?_)
      obtain ⟨f_16, hP, hD⟩ : ∃ f_16 : Nat → Int32, va_P (dC, dI) vwCl [(h0, .inr (12, fs)), (h1, .inl (cA1, 3, .inl f_12)), (h4, .inl (cA4, 12, .inl f_16)), (h5, .inl (cA5, 480, .inl f5)), (h6, .inl (cA6, 160, .inl f6)), (h7, .inl (cA7, 3, .inl f_14))] H ∧ va_D A [(h0, .inr (12, fs)), (h1, .inl (cA1, 3, .inl f_12)), (h4, .inl (cA4, 12, .inl f_16)), (h5, .inl (cA5, 480, .inl f5)), (h6, .inl (cA6, 160, .inl f6)), (h7, .inl (cA7, 3, .inl f_14))] := ⟨_, hP, hD⟩
      refine lv_aload_n hx hb dX12_image_80 rfl (lv_at hl 1 rfl) ?_
      refine va_get (D := (dC, dI)) (ci := 12) (v := .ref h4) (C := RX12) (T := TX12) (N := 80) hx hb hts hiX12 hown hK hP 0 rfl rfl 77 (by decide) (hts (.fieldLink RX12 149 "CakePapersModel" "boxJoin" "[I") (by decide +kernel)) (fun _ h9 => h9) e_fs_77 dX12_image_81 ?_
      refine lv_iconst (v := 4) hx hb dX12_image_84 (by decide) ?_
      refine lv_iload_n hx hb dX12_image_85 rfl (lv_at hl 2 rfl) ?_
      refine lv_imul hx hb dX12_image_86 ?_
      refine zz_ci (y := 4) (by decide) ?_
      refine lv_iconst (v := 2) hx hb dX12_image_87 (by decide) ?_
      refine lv_iadd hx hb dX12_image_88 ?_
      refine zz_ci (y := 6) (by decide) ?_
      refine lv_aload_n hx hb dX12_image_89 rfl (lv_at hl 1 rfl) ?_
      refine va_get (D := (dC, dI)) (ci := 12) (v := .int 0) (C := RX12) (T := TX12) (N := 80) hx hb hts hiX12 hown hK hP 0 rfl rfl 58 (by decide) (hts (.fieldLink RX12 488 "CakePapersModel" "tOther" "I") (by decide +kernel)) (fun _ h9 => h9) e_fs_58 dX12_image_90 ?_
      refine va_iast hx hb hK hP hD hS 2 1 rfl rfl (zz_in (by decide)) dX12_image_93 (fun H locs hP hD hS => ?_)
      obtain ⟨f_17, hP, hD⟩ : ∃ f_17 : Nat → Int32, va_P (dC, dI) vwCl [(h0, .inr (12, fs)), (h1, .inl (cA1, 3, .inl f_12)), (h4, .inl (cA4, 12, .inl f_17)), (h5, .inl (cA5, 480, .inl f5)), (h6, .inl (cA6, 160, .inl f6)), (h7, .inl (cA7, 3, .inl f_14))] H ∧ va_D A [(h0, .inr (12, fs)), (h1, .inl (cA1, 3, .inl f_12)), (h4, .inl (cA4, 12, .inl f_17)), (h5, .inl (cA5, 480, .inl f5)), (h6, .inl (cA6, 160, .inl f6)), (h7, .inl (cA7, 3, .inl f_14))] := ⟨_, hP, hD⟩
      refine lv_aload_n hx hb dX12_image_94 rfl (lv_at hl 1 rfl) ?_
      refine va_get (D := (dC, dI)) (ci := 12) (v := .ref h4) (C := RX12) (T := TX12) (N := 80) hx hb hts hiX12 hown hK hP 0 rfl rfl 77 (by decide) (hts (.fieldLink RX12 149 "CakePapersModel" "boxJoin" "[I") (by decide +kernel)) (fun _ h9 => h9) e_fs_77 dX12_image_95 ?_
      refine lv_iconst (v := 4) hx hb dX12_image_98 (by decide) ?_
      refine lv_iload_n hx hb dX12_image_99 rfl (lv_at hl 2 rfl) ?_
      refine lv_imul hx hb dX12_image_100 ?_
      refine zz_ci (y := 4) (by decide) ?_
      refine lv_iconst (v := 3) hx hb dX12_image_101 (by decide) ?_
      refine lv_iadd hx hb dX12_image_102 ?_
      refine zz_ci (y := 7) (by decide) ?_
      refine lv_aload_n hx hb dX12_image_103 rfl (lv_at hl 1 rfl) ?_
      refine va_get (D := (dC, dI)) (ci := 12) (v := .int 0) (C := RX12) (T := TX12) (N := 80) hx hb hts hiX12 hown hK hP 0 rfl rfl 59 (by decide) (hts (.fieldLink RX12 491 "CakePapersModel" "tMany" "I") (by decide +kernel)) (fun _ h9 => h9) e_fs_59 dX12_image_104 ?_
      refine va_iast hx hb hK hP hD hS 2 1 rfl rfl (zz_in (by decide)) dX12_image_107 (fun H locs hP hD hS => ?_)
      obtain ⟨f_18, hP, hD⟩ : ∃ f_18 : Nat → Int32, va_P (dC, dI) vwCl [(h0, .inr (12, fs)), (h1, .inl (cA1, 3, .inl f_12)), (h4, .inl (cA4, 12, .inl f_18)), (h5, .inl (cA5, 480, .inl f5)), (h6, .inl (cA6, 160, .inl f6)), (h7, .inl (cA7, 3, .inl f_14))] H ∧ va_D A [(h0, .inr (12, fs)), (h1, .inl (cA1, 3, .inl f_12)), (h4, .inl (cA4, 12, .inl f_18)), (h5, .inl (cA5, 480, .inl f5)), (h6, .inl (cA6, 160, .inl f6)), (h7, .inl (cA7, 3, .inl f_14))] := ⟨_, hP, hD⟩
      refine lv_iconst (v := 0) hx hb dX12_image_108 (by decide) ?_
      refine lv_istore_n (lv' := [(2, .int 0), (0, .ref h0), (1, .int 1)]) hx hb dX12_image_109 rfl hl (by decide) rfl (fun ls hl => ?_)
      have key : ∀ (n i : Nat), i + n = 160 → ∀ (fz : Nat → Int32) (H : Heap) (locs : List Loc), va_P (dC, dI) vwCl [(h0, .inr (12, fs)), (h1, .inl (cA1, 3, .inl f_12)), (h4, .inl (cA4, 12, .inl f_18)), (h5, .inl (cA5, 480, .inl fz)), (h6, .inl (cA6, 160, .inl f6)), (h7, .inl (cA7, 3, .inl f_14))] H → va_D A [(h0, .inr (12, fs)), (h1, .inl (cA1, 3, .inl f_12)), (h4, .inl (cA4, 12, .inl f_18)), (h5, .inl (cA5, 480, .inl fz)), (h6, .inl (cA6, 160, .inl f6)), (h7, .inl (cA7, 3, .inl f_14))] → va_S A s.heap H locs → ∀ (ls : Array Slot), lv_has ls 3 [(2, .int (nI i)), (0, .ref h0), (1, .int 1)] → W p l e (headSpec u_c_X12_image ({ frames := 1, cells := 0, slots := 0, locals := 22 })).room s m ([.ref h0, .int 1] : List Value).toArray below meth c H locs 0 0 (MQ below (va_Qi (fun (r : Int32) (_ : Unit) => r = zz_im 1) (fun _ _ => True) A) ([.ref h0, .int 1] : List Value).toArray s 0 0 A) (F0 m 110 ls []) := by
        intro n
        induction n with
        | zero =>
          intro i hi fz H locs hP hD hS ls hl
          have hi : i = 160 := by omega
          subst hi
          refine lv_iload_n hx hb dX12_image_110 rfl (lv_at hl 0 rfl) ?_
          refine lv_sipush (v := 160) hx hb dX12_image_111 (by decide) ?_
          refine lv_icmp_ge (tgt := 141) hx hb dX12_image_114 (by decide) (fun c_0 => ?_) (fun c_0 => absurd (by decide) c_0)
          refine lv_aload_n hx hb dX12_image_141 rfl (lv_at hl 1 rfl) ?_
          refine va_get (D := (dC, dI)) (ci := 12) (v := .int 0) (C := RX12) (T := TX12) (N := 80) hx hb hts hiX12 hown hK hP 0 rfl rfl 20 (by decide) (hts (.fieldLink RX12 250 "CakePapersModel" "papers" "I") (by decide +kernel)) (fun _ h9 => h9) e_fs_20 dX12_image_142 ?_
          refine W.widen (k := 0) (n := 0) (Nat.le_of_ble_eq_true rfl) (Nat.le_of_ble_eq_true rfl) ?_
          exact W.iret (v := 0) hx hb hr (fun t ht hW => ⟨⟨0, (), rfl, (by decide), trivial⟩, hS.F ht⟩) hS.2.2 dX12_image_145
        | succ n ih =>
          intro i hi fz H locs hP hD hS ls hl
          have hlt : i < 160 := by omega
          refine lv_iload_n hx hb dX12_image_110 rfl (lv_at hl 0 rfl) ?_
          refine lv_sipush (v := 160) hx hb dX12_image_111 (by decide) ?_
          refine lv_icmp_ge (tgt := 141) hx hb dX12_image_114 (by decide) (fun c_0 => absurd c_0 (nI_ge hlt (by decide))) (fun c_0 => ?_)
          refine lv_aload_n hx hb dX12_image_117 rfl (lv_at hl 1 rfl) ?_
          refine va_get (D := (dC, dI)) (ci := 12) (v := .ref h5) (C := RX12) (T := TX12) (N := 80) hx hb hts hiX12 hown hK hP 0 rfl rfl 78 (by decide) (hts (.fieldLink RX12 152 "CakePapersModel" "boxSide" "[I") (by decide +kernel)) (fun _ h9 => h9) e_fs_78 dX12_image_118 ?_
          refine lv_sipush (v := 160) hx hb dX12_image_121 (by decide) ?_
          refine lv_iload_n hx hb dX12_image_124 rfl (lv_at hl 2 rfl) ?_
          refine lv_imul hx hb dX12_image_125 ?_
          refine zz_ci (y := 160) (by decide) ?_
          refine lv_iload_n hx hb dX12_image_126 rfl (lv_at hl 0 rfl) ?_
          refine lv_iadd hx hb dX12_image_127 ?_
          refine lv_aload_n hx hb dX12_image_128 rfl (lv_at hl 1 rfl) ?_
          refine va_get (D := (dC, dI)) (ci := 12) (v := .ref h6) (C := RX12) (T := TX12) (N := 80) hx hb hts hiX12 hown hK hP 0 rfl rfl 55 (by decide) (hts (.fieldLink RX12 116 "CakePapersModel" "tSide" "[I") (by decide +kernel)) (fun _ h9 => h9) e_fs_55 dX12_image_129 ?_
          refine lv_iload_n hx hb dX12_image_132 rfl (lv_at hl 0 rfl) ?_
          refine va_iald hx hb hK hP 4 3 rfl rfl (vp_in_nI hlt (by decide)) dX12_image_133 ?_
          refine lv_topi (fun v_19 _ => ?_)
          refine va_iast hx hb hK hP hD hS 3 2 rfl rfl (zz_im160 hlt) dX12_image_134 (fun H locs hP hD hS => ?_)
          obtain ⟨f_20, hP, hD⟩ : ∃ f_20 : Nat → Int32, va_P (dC, dI) vwCl [(h0, .inr (12, fs)), (h1, .inl (cA1, 3, .inl f_12)), (h4, .inl (cA4, 12, .inl f_18)), (h5, .inl (cA5, 480, .inl f_20)), (h6, .inl (cA6, 160, .inl f6)), (h7, .inl (cA7, 3, .inl f_14))] H ∧ va_D A [(h0, .inr (12, fs)), (h1, .inl (cA1, 3, .inl f_12)), (h4, .inl (cA4, 12, .inl f_18)), (h5, .inl (cA5, 480, .inl f_20)), (h6, .inl (cA6, 160, .inl f6)), (h7, .inl (cA7, 3, .inl f_14))] := ⟨_, hP, hD⟩
          refine lv_iinc (v := ((nI i) + 1)) (lv' := [(2, .int ((nI i) + 1)), (0, .ref h0), (1, .int 1)]) hx hb dX12_image_135 hl (k := 0) rfl rfl (by decide) rfl (fun ls hl => ?_)
          refine lv_goto (tgt := 110) hx hb dX12_image_138 (by decide) ?_
          exact ih (i + 1) (by omega) f_20 H locs hP hD hS ls (by rw [← nI_1]; exact hl)
      exact key 160 0 rfl f5 H locs hP hD hS ls hl
    · subst h_b
      refine lv_aload_n hx hb dX12_image_11 rfl (lv_at hl 0 rfl) ?_
      refine va_get (D := (dC, dI)) (ci := 12) (v := .ref h1) (C := RX12) (T := TX12) (N := 80) hx hb hts hiX12 hown hK hP 0 rfl rfl 76 (by decide) (hts (.fieldLink RX12 146 "CakePapersModel" "boxMany" "[I") (by decide +kernel)) (fun _ h9 => h9) e_fs_76 dX12_image_12 ?_
      refine lv_iload_n hx hb dX12_image_15 rfl (lv_at hl 1 rfl) ?_
      refine lv_aload_n hx hb dX12_image_16 rfl (lv_at hl 0 rfl) ?_
      refine va_get (D := (dC, dI)) (ci := 12) (v := .int 0) (C := RX12) (T := TX12) (N := 80) hx hb hts hiX12 hown hK hP 0 rfl rfl 20 (by decide) (hts (.fieldLink RX12 250 "CakePapersModel" "papers" "I") (by decide +kernel)) (fun _ h9 => h9) e_fs_20 dX12_image_17 ?_
      refine va_iast hx hb hK hP hD hS 1 0 rfl rfl (zz_in (by decide)) dX12_image_20 (fun H locs hP hD hS => ?_)
      obtain ⟨f_21, hP, hD⟩ : ∃ f_21 : Nat → Int32, va_P (dC, dI) vwCl [(h0, .inr (12, fs)), (h1, .inl (cA1, 3, .inl f_21)), (h4, .inl (cA4, 12, .inl f4)), (h5, .inl (cA5, 480, .inl f5)), (h6, .inl (cA6, 160, .inl f6)), (h7, .inl (cA7, 3, .inl f7))] H ∧ va_D A [(h0, .inr (12, fs)), (h1, .inl (cA1, 3, .inl f_21)), (h4, .inl (cA4, 12, .inl f4)), (h5, .inl (cA5, 480, .inl f5)), (h6, .inl (cA6, 160, .inl f6)), (h7, .inl (cA7, 3, .inl f7))] := ⟨_, hP, hD⟩
      refine lv_iconst (v := 0) hx hb dX12_image_21 (by decide) ?_
      refine lv_istore_n (lv' := [(2, .int 0), (0, .ref h0), (1, .int 2)]) hx hb dX12_image_22 rfl hl (by decide) rfl (fun ls hl => ?_)
      refine lv_iload_n hx hb dX12_image_23 rfl (lv_at hl 0 rfl) ?_
      refine lv_aload_n hx hb dX12_image_24 rfl (lv_at hl 1 rfl) ?_
      refine va_get (D := (dC, dI)) (ci := 12) (v := .int 0) (C := RX12) (T := TX12) (N := 80) hx hb hts hiX12 hown hK hP 0 rfl rfl 20 (by decide) (hts (.fieldLink RX12 250 "CakePapersModel" "papers" "I") (by decide +kernel)) (fun _ h9 => h9) e_fs_20 dX12_image_25 ?_
      refine lv_icmp_ge (tgt := 44) hx hb dX12_image_28 (by decide) (fun c_22 => ?_) (fun c_22 => absurd c_22 (by decide))
      refine lv_aload_n hx hb dX12_image_44 rfl (lv_at hl 1 rfl) ?_
      refine va_get (D := (dC, dI)) (ci := 12) (v := .ref h7) (C := RX12) (T := TX12) (N := 80) hx hb hts hiX12 hown hK hP 0 rfl rfl 79 (by decide) (hts (.fieldLink RX12 155 "CakePapersModel" "boxJoining" "[Z") (by decide +kernel)) (fun _ h9 => h9) e_fs_79 dX12_image_45 ?_
      refine lv_iload_n hx hb dX12_image_48 rfl (lv_at hl 2 rfl) ?_
      refine lv_aload_n hx hb dX12_image_49 rfl (lv_at hl 1 rfl) ?_
      refine va_get (D := (dC, dI)) (ci := 12) (v := .int 0) (C := RX12) (T := TX12) (N := 80) hx hb hts hiX12 hown hK hP 0 rfl rfl 60 (by decide) (hts (.fieldLink RX12 494 "CakePapersModel" "isJoining" "Z") (by decide +kernel)) (fun _ h9 => h9) e_fs_60 dX12_image_50 ?_
      refine va_zast hx hb hK hP hD hS 5 4 rfl rfl (zz_in (by decide)) dX12_image_53 (fun H locs hP hD hS => ?_)
      obtain ⟨f_23, hP, hD⟩ : ∃ f_23 : Nat → Int32, va_P (dC, dI) vwCl [(h0, .inr (12, fs)), (h1, .inl (cA1, 3, .inl f_21)), (h4, .inl (cA4, 12, .inl f4)), (h5, .inl (cA5, 480, .inl f5)), (h6, .inl (cA6, 160, .inl f6)), (h7, .inl (cA7, 3, .inl f_23))] H ∧ va_D A [(h0, .inr (12, fs)), (h1, .inl (cA1, 3, .inl f_21)), (h4, .inl (cA4, 12, .inl f4)), (h5, .inl (cA5, 480, .inl f5)), (h6, .inl (cA6, 160, .inl f6)), (h7, .inl (cA7, 3, .inl f_23))] := ⟨_, hP, hD⟩
      refine lv_aload_n hx hb dX12_image_54 rfl (lv_at hl 1 rfl) ?_
      refine va_get (D := (dC, dI)) (ci := 12) (v := .ref h4) (C := RX12) (T := TX12) (N := 80) hx hb hts hiX12 hown hK hP 0 rfl rfl 77 (by decide) (hts (.fieldLink RX12 149 "CakePapersModel" "boxJoin" "[I") (by decide +kernel)) (fun _ h9 => h9) e_fs_77 dX12_image_55 ?_
      refine lv_iconst (v := 4) hx hb dX12_image_58 (by decide) ?_
      refine lv_iload_n hx hb dX12_image_59 rfl (lv_at hl 2 rfl) ?_
      refine lv_imul hx hb dX12_image_60 ?_
      refine zz_ci (y := 8) (by decide) ?_
      refine lv_aload_n hx hb dX12_image_61 rfl (lv_at hl 1 rfl) ?_
      refine va_get (D := (dC, dI)) (ci := 12) (v := .int 0) (C := RX12) (T := TX12) (N := 80) hx hb hts hiX12 hown hK hP 0 rfl rfl 56 (by decide) (hts (.fieldLink RX12 482 "CakePapersModel" "tBase" "I") (by decide +kernel)) (fun _ h9 => h9) e_fs_56 dX12_image_62 ?_
      refine va_iast hx hb hK hP hD hS 2 1 rfl rfl (zz_in (by decide)) dX12_image_65 (fun H locs hP hD hS => ?_)
      obtain ⟨f_24, hP, hD⟩ : ∃ f_24 : Nat → Int32, va_P (dC, dI) vwCl [(h0, .inr (12, fs)), (h1, .inl (cA1, 3, .inl f_21)), (h4, .inl (cA4, 12, .inl f_24)), (h5, .inl (cA5, 480, .inl f5)), (h6, .inl (cA6, 160, .inl f6)), (h7, .inl (cA7, 3, .inl f_23))] H ∧ va_D A [(h0, .inr (12, fs)), (h1, .inl (cA1, 3, .inl f_21)), (h4, .inl (cA4, 12, .inl f_24)), (h5, .inl (cA5, 480, .inl f5)), (h6, .inl (cA6, 160, .inl f6)), (h7, .inl (cA7, 3, .inl f_23))] := ⟨_, hP, hD⟩
      refine lv_aload_n hx hb dX12_image_66 rfl (lv_at hl 1 rfl) ?_
      refine va_get (D := (dC, dI)) (ci := 12) (v := .ref h4) (C := RX12) (T := TX12) (N := 80) hx hb hts hiX12 hown hK hP 0 rfl rfl 77 (by decide) (hts (.fieldLink RX12 149 "CakePapersModel" "boxJoin" "[I") (by decide +kernel)) (fun _ h9 => h9) e_fs_77 dX12_image_67 ?_
      refine lv_iconst (v := 4) hx hb dX12_image_70 (by decide) ?_
      refine lv_iload_n hx hb dX12_image_71 rfl (lv_at hl 2 rfl) ?_
      refine lv_imul hx hb dX12_image_72 ?_
      refine zz_ci (y := 8) (by decide) ?_
      refine lv_iconst (v := 1) hx hb dX12_image_73 (by decide) ?_
      refine lv_iadd hx hb dX12_image_74 ?_
      refine zz_ci (y := 9) (by decide) ?_
      refine lv_aload_n hx hb dX12_image_75 rfl (lv_at hl 1 rfl) ?_
      refine va_get (D := (dC, dI)) (ci := 12) (v := .int 0) (C := RX12) (T := TX12) (N := 80) hx hb hts hiX12 hown hK hP 0 rfl rfl 57 (by decide) (hts (.fieldLink RX12 485 "CakePapersModel" "tOne" "I") (by decide +kernel)) (fun _ h9 => h9) e_fs_57 dX12_image_76 ?_
      refine va_iast hx hb hK hP hD hS 2 1 rfl rfl (zz_in (by decide)) dX12_image_79 (fun H locs hP hD hS => ?_)
      obtain ⟨f_25, hP, hD⟩ : ∃ f_25 : Nat → Int32, va_P (dC, dI) vwCl [(h0, .inr (12, fs)), (h1, .inl (cA1, 3, .inl f_21)), (h4, .inl (cA4, 12, .inl f_25)), (h5, .inl (cA5, 480, .inl f5)), (h6, .inl (cA6, 160, .inl f6)), (h7, .inl (cA7, 3, .inl f_23))] H ∧ va_D A [(h0, .inr (12, fs)), (h1, .inl (cA1, 3, .inl f_21)), (h4, .inl (cA4, 12, .inl f_25)), (h5, .inl (cA5, 480, .inl f5)), (h6, .inl (cA6, 160, .inl f6)), (h7, .inl (cA7, 3, .inl f_23))] := ⟨_, hP, hD⟩
      refine lv_aload_n hx hb dX12_image_80 rfl (lv_at hl 1 rfl) ?_
      refine va_get (D := (dC, dI)) (ci := 12) (v := .ref h4) (C := RX12) (T := TX12) (N := 80) hx hb hts hiX12 hown hK hP 0 rfl rfl 77 (by decide) (hts (.fieldLink RX12 149 "CakePapersModel" "boxJoin" "[I") (by decide +kernel)) (fun _ h9 => h9) e_fs_77 dX12_image_81 ?_
      refine lv_iconst (v := 4) hx hb dX12_image_84 (by decide) ?_
      refine lv_iload_n hx hb dX12_image_85 rfl (lv_at hl 2 rfl) ?_
      refine lv_imul hx hb dX12_image_86 ?_
      refine zz_ci (y := 8) (by decide) ?_
      refine lv_iconst (v := 2) hx hb dX12_image_87 (by decide) ?_
      refine lv_iadd hx hb dX12_image_88 ?_
      refine zz_ci (y := 10) (by decide) ?_
      refine lv_aload_n hx hb dX12_image_89 rfl (lv_at hl 1 rfl) ?_
      refine va_get (D := (dC, dI)) (ci := 12) (v := .int 0) (C := RX12) (T := TX12) (N := 80) hx hb hts hiX12 hown hK hP 0 rfl rfl 58 (by decide) (hts (.fieldLink RX12 488 "CakePapersModel" "tOther" "I") (by decide +kernel)) (fun _ h9 => h9) e_fs_58 dX12_image_90 ?_
      refine va_iast hx hb hK hP hD hS 2 1 rfl rfl (zz_in (by decide)) dX12_image_93 (fun H locs hP hD hS => ?_)
      obtain ⟨f_26, hP, hD⟩ : ∃ f_26 : Nat → Int32, va_P (dC, dI) vwCl [(h0, .inr (12, fs)), (h1, .inl (cA1, 3, .inl f_21)), (h4, .inl (cA4, 12, .inl f_26)), (h5, .inl (cA5, 480, .inl f5)), (h6, .inl (cA6, 160, .inl f6)), (h7, .inl (cA7, 3, .inl f_23))] H ∧ va_D A [(h0, .inr (12, fs)), (h1, .inl (cA1, 3, .inl f_21)), (h4, .inl (cA4, 12, .inl f_26)), (h5, .inl (cA5, 480, .inl f5)), (h6, .inl (cA6, 160, .inl f6)), (h7, .inl (cA7, 3, .inl f_23))] := ⟨_, hP, hD⟩
      refine lv_aload_n hx hb dX12_image_94 rfl (lv_at hl 1 rfl) ?_
      refine va_get (D := (dC, dI)) (ci := 12) (v := .ref h4) (C := RX12) (T := TX12) (N := 80) hx hb hts hiX12 hown hK hP 0 rfl rfl 77 (by decide) (hts (.fieldLink RX12 149 "CakePapersModel" "boxJoin" "[I") (by decide +kernel)) (fun _ h9 => h9) e_fs_77 dX12_image_95 ?_
      refine lv_iconst (v := 4) hx hb dX12_image_98 (by decide) ?_
      refine lv_iload_n hx hb dX12_image_99 rfl (lv_at hl 2 rfl) ?_
      refine lv_imul hx hb dX12_image_100 ?_
      refine zz_ci (y := 8) (by decide) ?_
      refine lv_iconst (v := 3) hx hb dX12_image_101 (by decide) ?_
      refine lv_iadd hx hb dX12_image_102 ?_
      refine zz_ci (y := 11) (by decide) ?_
      refine lv_aload_n hx hb dX12_image_103 rfl (lv_at hl 1 rfl) ?_
      refine va_get (D := (dC, dI)) (ci := 12) (v := .int 0) (C := RX12) (T := TX12) (N := 80) hx hb hts hiX12 hown hK hP 0 rfl rfl 59 (by decide) (hts (.fieldLink RX12 491 "CakePapersModel" "tMany" "I") (by decide +kernel)) (fun _ h9 => h9) e_fs_59 dX12_image_104 ?_
      refine va_iast hx hb hK hP hD hS 2 1 rfl rfl (zz_in (by decide)) dX12_image_107 (fun H locs hP hD hS => ?_)
      obtain ⟨f_27, hP, hD⟩ : ∃ f_27 : Nat → Int32, va_P (dC, dI) vwCl [(h0, .inr (12, fs)), (h1, .inl (cA1, 3, .inl f_21)), (h4, .inl (cA4, 12, .inl f_27)), (h5, .inl (cA5, 480, .inl f5)), (h6, .inl (cA6, 160, .inl f6)), (h7, .inl (cA7, 3, .inl f_23))] H ∧ va_D A [(h0, .inr (12, fs)), (h1, .inl (cA1, 3, .inl f_21)), (h4, .inl (cA4, 12, .inl f_27)), (h5, .inl (cA5, 480, .inl f5)), (h6, .inl (cA6, 160, .inl f6)), (h7, .inl (cA7, 3, .inl f_23))] := ⟨_, hP, hD⟩
      refine lv_iconst (v := 0) hx hb dX12_image_108 (by decide) ?_
      refine lv_istore_n (lv' := [(2, .int 0), (0, .ref h0), (1, .int 2)]) hx hb dX12_image_109 rfl hl (by decide) rfl (fun ls hl => ?_)
      have key : ∀ (n i : Nat), i + n = 160 → ∀ (fz : Nat → Int32) (H : Heap) (locs : List Loc), va_P (dC, dI) vwCl [(h0, .inr (12, fs)), (h1, .inl (cA1, 3, .inl f_21)), (h4, .inl (cA4, 12, .inl f_27)), (h5, .inl (cA5, 480, .inl fz)), (h6, .inl (cA6, 160, .inl f6)), (h7, .inl (cA7, 3, .inl f_23))] H → va_D A [(h0, .inr (12, fs)), (h1, .inl (cA1, 3, .inl f_21)), (h4, .inl (cA4, 12, .inl f_27)), (h5, .inl (cA5, 480, .inl fz)), (h6, .inl (cA6, 160, .inl f6)), (h7, .inl (cA7, 3, .inl f_23))] → va_S A s.heap H locs → ∀ (ls : Array Slot), lv_has ls 3 [(2, .int (nI i)), (0, .ref h0), (1, .int 2)] → W p l e (headSpec u_c_X12_image ({ frames := 1, cells := 0, slots := 0, locals := 22 })).room s m ([.ref h0, .int 2] : List Value).toArray below meth c H locs 0 0 (MQ below (va_Qi (fun (r : Int32) (_ : Unit) => r = zz_im 2) (fun _ _ => True) A) ([.ref h0, .int 2] : List Value).toArray s 0 0 A) (F0 m 110 ls []) := by
        intro n
        induction n with
        | zero =>
          intro i hi fz H locs hP hD hS ls hl
          have hi : i = 160 := by omega
          subst hi
          refine lv_iload_n hx hb dX12_image_110 rfl (lv_at hl 0 rfl) ?_
          refine lv_sipush (v := 160) hx hb dX12_image_111 (by decide) ?_
          refine lv_icmp_ge (tgt := 141) hx hb dX12_image_114 (by decide) (fun c_0 => ?_) (fun c_0 => absurd (by decide) c_0)
          refine lv_aload_n hx hb dX12_image_141 rfl (lv_at hl 1 rfl) ?_
          refine va_get (D := (dC, dI)) (ci := 12) (v := .int 0) (C := RX12) (T := TX12) (N := 80) hx hb hts hiX12 hown hK hP 0 rfl rfl 20 (by decide) (hts (.fieldLink RX12 250 "CakePapersModel" "papers" "I") (by decide +kernel)) (fun _ h9 => h9) e_fs_20 dX12_image_142 ?_
          refine W.widen (k := 0) (n := 0) (Nat.le_of_ble_eq_true rfl) (Nat.le_of_ble_eq_true rfl) ?_
          exact W.iret (v := 0) hx hb hr (fun t ht hW => ⟨⟨0, (), rfl, (by decide), trivial⟩, hS.F ht⟩) hS.2.2 dX12_image_145
        | succ n ih =>
          intro i hi fz H locs hP hD hS ls hl
          have hlt : i < 160 := by omega
          refine lv_iload_n hx hb dX12_image_110 rfl (lv_at hl 0 rfl) ?_
          refine lv_sipush (v := 160) hx hb dX12_image_111 (by decide) ?_
          refine lv_icmp_ge (tgt := 141) hx hb dX12_image_114 (by decide) (fun c_0 => absurd c_0 (nI_ge hlt (by decide))) (fun c_0 => ?_)
          refine lv_aload_n hx hb dX12_image_117 rfl (lv_at hl 1 rfl) ?_
          refine va_get (D := (dC, dI)) (ci := 12) (v := .ref h5) (C := RX12) (T := TX12) (N := 80) hx hb hts hiX12 hown hK hP 0 rfl rfl 78 (by decide) (hts (.fieldLink RX12 152 "CakePapersModel" "boxSide" "[I") (by decide +kernel)) (fun _ h9 => h9) e_fs_78 dX12_image_118 ?_
          refine lv_sipush (v := 160) hx hb dX12_image_121 (by decide) ?_
          refine lv_iload_n hx hb dX12_image_124 rfl (lv_at hl 2 rfl) ?_
          refine lv_imul hx hb dX12_image_125 ?_
          refine zz_ci (y := 320) (by decide) ?_
          refine lv_iload_n hx hb dX12_image_126 rfl (lv_at hl 0 rfl) ?_
          refine lv_iadd hx hb dX12_image_127 ?_
          refine lv_aload_n hx hb dX12_image_128 rfl (lv_at hl 1 rfl) ?_
          refine va_get (D := (dC, dI)) (ci := 12) (v := .ref h6) (C := RX12) (T := TX12) (N := 80) hx hb hts hiX12 hown hK hP 0 rfl rfl 55 (by decide) (hts (.fieldLink RX12 116 "CakePapersModel" "tSide" "[I") (by decide +kernel)) (fun _ h9 => h9) e_fs_55 dX12_image_129 ?_
          refine lv_iload_n hx hb dX12_image_132 rfl (lv_at hl 0 rfl) ?_
          refine va_iald hx hb hK hP 4 3 rfl rfl (vp_in_nI hlt (by decide)) dX12_image_133 ?_
          refine lv_topi (fun v_28 _ => ?_)
          refine va_iast hx hb hK hP hD hS 3 2 rfl rfl (zz_im320 hlt) dX12_image_134 (fun H locs hP hD hS => ?_)
          obtain ⟨f_29, hP, hD⟩ : ∃ f_29 : Nat → Int32, va_P (dC, dI) vwCl [(h0, .inr (12, fs)), (h1, .inl (cA1, 3, .inl f_21)), (h4, .inl (cA4, 12, .inl f_27)), (h5, .inl (cA5, 480, .inl f_29)), (h6, .inl (cA6, 160, .inl f6)), (h7, .inl (cA7, 3, .inl f_23))] H ∧ va_D A [(h0, .inr (12, fs)), (h1, .inl (cA1, 3, .inl f_21)), (h4, .inl (cA4, 12, .inl f_27)), (h5, .inl (cA5, 480, .inl f_29)), (h6, .inl (cA6, 160, .inl f6)), (h7, .inl (cA7, 3, .inl f_23))] := ⟨_, hP, hD⟩
          refine lv_iinc (v := ((nI i) + 1)) (lv' := [(2, .int ((nI i) + 1)), (0, .ref h0), (1, .int 2)]) hx hb dX12_image_135 hl (k := 0) rfl rfl (by decide) rfl (fun ls hl => ?_)
          refine lv_goto (tgt := 110) hx hb dX12_image_138 (by decide) ?_
          exact ih (i + 1) (by omega) f_29 H locs hP hD hS ls (by rw [← nI_1]; exact hl)
      exact key 160 0 rfl f5 H locs hP hD hS ls hl
  · refine lv_iconst (v := (-1)) hx hb dX12_image_9 (by decide) ?_
    refine W.widen (k := 0) (n := 0) (Nat.le_of_ble_eq_true rfl) (Nat.le_of_ble_eq_true rfl) ?_
    exact W.iret (v := (-1)) hx hb hr (fun t ht hW => ⟨⟨(-1), (), rfl, (zz_imr w_1 c_2), trivial⟩, hS.F ht⟩) hS.2.2 dX12_image_10
def u_c_X12_back : List Cond := .code yX12_back cX12_back 3 (some .int) :: ([.code yX12_isIn cX12_isIn 3 (some .boolean), .methodLink RX12 297 yX12_isIn, .static yX12_isIn, .initialized RX12, .fieldLink RX12 146 "CakePapersModel" "boxMany" "[I"] ++ wsX120)
theorem iX12_c_X12_back : ∀ w ∈ wsX120, w ∈ u_c_X12_back := fun w h => List.mem_cons_of_mem _ (List.mem_append_right _ h)
set_option maxRecDepth 20000 in
theorem g_c_X12_back_c_X12_isIn_0 : GoodIn u_c_X12_back (va_wsS RX12 297 yX12_isIn u_c_X12_isIn) := goodIn_app (goodIn_of _ (by decide +kernel)) (goodIn_of (.code yX12_isIn cX12_isIn 3 (some .boolean) :: []) (by decide +kernel))
set_option maxHeartbeats 1000000 in
set_option maxRecDepth 100000 in
theorem c_X12_back (l : Launch) (dC : Nat → ClassId) (dI : Nat → Nat → Nat) (sz : Nat) (h0 h1 : Nat) (cI : ClassId) (fs : List Value) (hn_fs : fs.length = 80) (e_fs_76 : fs[76]? = some (.ref h1)) (p0 : Int32) : Met l yX12_back u_c_X12_back ({ frames := 1, cells := 0, slots := 0, locals := 22 }) (va_Pc [.ref h0, .int p0] (fun U => U.heap.size = sz ∧ va_P (dC, dI) vwCl [(h0, .inr (12, fs)), (h1, .inl (cI, 3, .inl (upd (upd (upd (fun _ => 0) 0 (-1)) 1 (-1)) 2 (-1))))] U.heap ∧ va_K (dC, dI) vwCl [(cI, .int)] U ∧ va_D (fun _ => True) [(h0, .inr (12, fs)), (h1, .inl (cI, 3, .inl (upd (upd (upd (fun _ => 0) 0 (-1)) 1 (-1)) 2 (-1))))])) (va_Qi (fun (r : Int32) (_ : Unit) => r = (-1)) (fun _ _ => True) (va_A [(h0, .inr (12, fs)), (h1, .inl (cI, 3, .inl (upd (upd (upd (fun _ => 0) 0 (-1)) 1 (-1)) 2 (-1))))] sz)) 0 0 (va_A [(h0, .inr (12, fs)), (h1, .inl (cI, 3, .inl (upd (upd (upd (fun _ => 0) 0 (-1)) 1 (-1)) 2 (-1))))] sz) := by
  refine Met.ofW (cc := cX12_back) (maxL := 3) (ret := (some .int)) (by decide) rfl ?_
  intro p e s m args below meth c s₁ B hml hv
  obtain ⟨rfl, hsz, hP, hK, hD0⟩ := hv
  have hx := B.exec
  have hb := B.bytes
  have hr := B.returns
  have hts := atoms_spec (ws := u_c_X12_back) B.pre
  have hown : s.vm.findClass RX12 = some m.cls := findClass_of_methodNamed B.named
  have hlocks := B.notSynchronized
  have hiX12 := iX12_c_X12_back
  subst hsz
  have hD := hD0.self (sz := s.heap.size)
  generalize hAe : va_A [(h0, .inr (12, fs)), (h1, .inl (cI, 3, .inl (upd (upd (upd (fun _ => 0) 0 (-1)) 1 (-1)) 2 (-1))))] s.heap.size = A at hD ⊢
  have hA : ∀ q : Nat, s.heap.size ≤ q → A q := fun q h => by rw [← hAe]; exact Or.inr h
  have hS : va_S A s.heap s.heap [] := va_S.rf
  obtain ⟨H, hH⟩ : ∃ H : Heap, H = s.heap := ⟨_, rfl⟩
  have hP : va_P (dC, dI) vwCl [(h0, .inr (12, fs)), (h1, .inl (cI, 3, .inl (upd (upd (upd (fun _ => 0) 0 (-1)) 1 (-1)) 2 (-1))))] H := by rw [hH]; exact hP
  have hS : va_S A s.heap H [] := by rw [hH]; exact hS
  have hl := lv_entry ([.ref h0, .int p0]) (n := 3) (Nat.le_of_ble_eq_true rfl)
  rw [lg_entry_eq]
  generalize (lg_sl ([.ref h0, .int p0]) ++ List.replicate (3 - (lg_sl ([.ref h0, .int p0])).length) Slot.unset).toArray = ls at hl ⊢
  have hl : lv_has ls 3 [(0, .ref h0), (1, .int p0)] := hl
  suffices h9 : W p l e (headSpec u_c_X12_back _).room s m _ below meth c H [] 0 0 _ (F0 m 0 ls []) by rw [hH] at h9; exact h9
  refine lv_iload_n hx hb dX12_back_0 rfl (lv_at hl 1 rfl) ?_
  refine lv_iconst (v := 0) hx hb dX12_back_1 (by decide) ?_
  refine lv_iconst (v := 2) hx hb dX12_back_2 (by decide) ?_
  have hPc := hP.sub (ws' := []) [] rfl
  have hDc := hD.sub (ws' := []) [] (by decide) rfl
  have hKc := hK.sub (tys' := []) [] rfl
  have hFc := va_free (wc := []) hD hS hA [] rfl
  refine va_calli (va_runS (As := [.int p0, .int 0, .int 2]) (rest := []) ⟨hx, hb, hml, hown, hts⟩ (c_X12_isIn l dC dI H.size p0 0 2) (va_cwS 3 hts g_c_X12_back_c_X12_isIn_0 rfl rfl rfl (by decide +kernel) ⟨Nat.le_of_ble_eq_true rfl, Nat.le_of_ble_eq_true rfl⟩) ⟨fun a U g mk q => by obtain ⟨q0, q1, qP, qK, qD⟩ := q; exact ⟨q0, q1, qP, va_K.moved (u := U) (U := U.calling g mk a) (Vm.Alike.refl U.vm) qK, qD⟩, fun U hU hW => ⟨rfl, by rw [hU], by rw [hU]; exact hPc, va_K.moved hW.alike hKc, hDc.weaken (fun _ _ _ _ => trivial)⟩⟩ rfl rfl hl.1 rfl (lv_room (Nat.le_of_ble_eq_true rfl)) dX12_back_3 ⟨Nat.le_of_ble_eq_true rfl, Nat.le_of_ble_eq_true rfl⟩) hS (fun q _ h => hFc q h) hFc (fun r_1 u t H1 locs ht hvm hw hB hz1 hk1 hS => ?_)
  obtain ⟨hP1, hD1⟩ := hB
  rw [ht] at hP1
  obtain ⟨hP, hD⟩ := va_join (wr := [(h0, .inr (12, fs)), (h1, .inl (cI, 3, .inl (upd (upd (upd (fun _ => 0) 0 (-1)) 1 (-1)) 2 (-1))))]) (w1 := []) hP hD [] [0, 1] rfl rfl (by decide) (by decide) hk1 hFc hP1 hD1
  generalize H1 = H at hP hS ⊢
  have hP : va_P (dC, dI) vwCl [(h0, .inr (12, fs)), (h1, .inl (cI, 3, .inl (upd (upd (upd (fun _ => 0) 0 (-1)) 1 (-1)) 2 (-1))))] H := hP
  have hD : va_D A [(h0, .inr (12, fs)), (h1, .inl (cI, 3, .inl (upd (upd (upd (fun _ => 0) 0 (-1)) 1 (-1)) 2 (-1))))] := hD
  refine W.widen (k := 0) (n := 0) (Nat.le_of_ble_eq_true rfl) (Nat.le_of_ble_eq_true rfl) ?_
  have w_1 := hw
  refine lv_if_eq (tgt := 18) hx hb dX12_back_6 (by decide) (fun c_2 => ?_) (fun c_2 => ?_)
  · refine lv_iconst (v := (-1)) hx hb dX12_back_18 (by decide) ?_
    refine W.widen (k := 0) (n := 0) (Nat.le_of_ble_eq_true rfl) (Nat.le_of_ble_eq_true rfl) ?_
    exact W.iret (v := (-1)) hx hb hr (fun t ht hW => ⟨⟨(-1), (), rfl, rfl, trivial⟩, hS.F ht⟩) hS.2.2 dX12_back_19
  · rcases zz_b3 w_1 c_2 with h_b | h_b | h_b
    · subst h_b
      refine lv_aload_n hx hb dX12_back_9 rfl (lv_at hl 0 rfl) ?_
      refine va_get (D := (dC, dI)) (ci := 12) (v := .ref h1) (C := RX12) (T := TX12) (N := 80) hx hb hts hiX12 hown hK hP 0 rfl rfl 76 (by decide) (hts (.fieldLink RX12 146 "CakePapersModel" "boxMany" "[I") (by decide +kernel)) (fun _ h9 => h9) e_fs_76 dX12_back_10 ?_
      refine lv_iload_n hx hb dX12_back_13 rfl (lv_at hl 1 rfl) ?_
      refine va_iald hx hb hK hP 1 0 rfl rfl (zz_in (by decide)) dX12_back_14 ?_
      refine zz_ci (y := (-1)) (by decide) ?_
      refine lv_if_ge (tgt := 20) hx hb dX12_back_15 (by decide) (fun c_4 => absurd c_4 (by decide)) (fun c_4 => ?_)
      refine lv_iconst (v := (-1)) hx hb dX12_back_18 (by decide) ?_
      refine W.widen (k := 0) (n := 0) (Nat.le_of_ble_eq_true rfl) (Nat.le_of_ble_eq_true rfl) ?_
      exact W.iret (v := (-1)) hx hb hr (fun t ht hW => ⟨⟨(-1), (), rfl, rfl, trivial⟩, hS.F ht⟩) hS.2.2 dX12_back_19
    · subst h_b
      refine lv_aload_n hx hb dX12_back_9 rfl (lv_at hl 0 rfl) ?_
      refine va_get (D := (dC, dI)) (ci := 12) (v := .ref h1) (C := RX12) (T := TX12) (N := 80) hx hb hts hiX12 hown hK hP 0 rfl rfl 76 (by decide) (hts (.fieldLink RX12 146 "CakePapersModel" "boxMany" "[I") (by decide +kernel)) (fun _ h9 => h9) e_fs_76 dX12_back_10 ?_
      refine lv_iload_n hx hb dX12_back_13 rfl (lv_at hl 1 rfl) ?_
      refine va_iald hx hb hK hP 1 0 rfl rfl (zz_in (by decide)) dX12_back_14 ?_
      refine zz_ci (y := (-1)) (by decide) ?_
      refine lv_if_ge (tgt := 20) hx hb dX12_back_15 (by decide) (fun c_6 => absurd c_6 (by decide)) (fun c_6 => ?_)
      refine lv_iconst (v := (-1)) hx hb dX12_back_18 (by decide) ?_
      refine W.widen (k := 0) (n := 0) (Nat.le_of_ble_eq_true rfl) (Nat.le_of_ble_eq_true rfl) ?_
      exact W.iret (v := (-1)) hx hb hr (fun t ht hW => ⟨⟨(-1), (), rfl, rfl, trivial⟩, hS.F ht⟩) hS.2.2 dX12_back_19
    · subst h_b
      refine lv_aload_n hx hb dX12_back_9 rfl (lv_at hl 0 rfl) ?_
      refine va_get (D := (dC, dI)) (ci := 12) (v := .ref h1) (C := RX12) (T := TX12) (N := 80) hx hb hts hiX12 hown hK hP 0 rfl rfl 76 (by decide) (hts (.fieldLink RX12 146 "CakePapersModel" "boxMany" "[I") (by decide +kernel)) (fun _ h9 => h9) e_fs_76 dX12_back_10 ?_
      refine lv_iload_n hx hb dX12_back_13 rfl (lv_at hl 1 rfl) ?_
      refine va_iald hx hb hK hP 1 0 rfl rfl (zz_in (by decide)) dX12_back_14 ?_
      refine zz_ci (y := (-1)) (by decide) ?_
      refine lv_if_ge (tgt := 20) hx hb dX12_back_15 (by decide) (fun c_8 => absurd c_8 (by decide)) (fun c_8 => ?_)
      refine lv_iconst (v := (-1)) hx hb dX12_back_18 (by decide) ?_
      refine W.widen (k := 0) (n := 0) (Nat.le_of_ble_eq_true rfl) (Nat.le_of_ble_eq_true rfl) ?_
      exact W.iret (v := (-1)) hx hb hr (fun t ht hW => ⟨⟨(-1), (), rfl, rfl, trivial⟩, hS.F ht⟩) hS.2.2 dX12_back_19