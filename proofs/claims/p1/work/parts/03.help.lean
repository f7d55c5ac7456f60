theorem zz_ci {p : Program} {l : Launch} {e : Env} {R : Room} {s : State} {m : MethodId} {args : Array Value} {below : List Frame} {meth : Method} {c : Code} {H : Heap} {locs : List Loc} {cells slots : Nat} {Q : State → Prop} {pc : Nat} {ls : Array Slot} {rest : List Value} {x y : Int32} (h : x = y) (k : W p l e R s m args below meth c H locs cells slots Q (F0 m pc ls (.int y :: rest))) : W p l e R s m args below meth c H locs cells slots Q (F0 m pc ls (.int x :: rest)) := h ▸ k
theorem zz_sw_0_4 (x : Int32) : (x.toInt < 0 ∨ 4 < x.toInt) ∨ x = 0 ∨ x = 1 ∨ x = 2 ∨ x = 3 ∨ x = 4 := by
  by_cases h1 : x.toInt < 0
  · exact Or.inl (Or.inl h1)
  by_cases h2 : 4 < x.toInt
  · exact Or.inl (Or.inr h2)
  right
  have h3 : x.toInt = 0 ∨ x.toInt = 1 ∨ x.toInt = 2 ∨ x.toInt = 3 ∨ x.toInt = 4 := by omega
  rcases h3 with h | h | h | h | h
  · exact Or.inl (Int32.toInt_inj.mp (h.trans (by decide)))
  · exact Or.inr (Or.inl (Int32.toInt_inj.mp (h.trans (by decide))))
  · exact Or.inr (Or.inr (Or.inl (Int32.toInt_inj.mp (h.trans (by decide)))))
  · exact Or.inr (Or.inr (Or.inr (Or.inl (Int32.toInt_inj.mp (h.trans (by decide))))))
  · exact Or.inr (Or.inr (Or.inr (Or.inr (Int32.toInt_inj.mp (h.trans (by decide))))))
theorem zz_three {x : Int32} (h1 : ¬ x < 0) (h2 : x < 3) : x = 0 ∨ x = 1 ∨ x = 2 := by
  have a1 : ¬ x.toInt < 0 := fun h => h1 (Int32.lt_iff_toInt_lt.mpr (by simpa using h))
  have a2 : x.toInt < 3 := by simpa using Int32.lt_iff_toInt_lt.mp h2
  have h3 : x.toInt = 0 ∨ x.toInt = 1 ∨ x.toInt = 2 := by omega
  rcases h3 with h | h | h
  · exact Or.inl (Int32.toInt_inj.mp (h.trans (by decide)))
  · exact Or.inr (Or.inl (Int32.toInt_inj.mp (h.trans (by decide))))
  · exact Or.inr (Or.inr (Int32.toInt_inj.mp (h.trans (by decide))))
theorem zz_le0 {x : Int32} (h1 : ¬ x < 0) (h2 : x ≤ 0) : x = 0 := by
  have a1 : ¬ x.toInt < 0 := fun h => h1 (Int32.lt_iff_toInt_lt.mpr (by simpa using h))
  have a2 : x.toInt ≤ 0 := by simpa using Int32.le_iff_toInt_le.mp h2
  exact Int32.toInt_inj.mp ((show x.toInt = 0 by omega).trans (by decide))
theorem zz_e1 {x : Int32} (h : x < 0) : (-1 : Int32) = if x = 0 then 0 else -1 := (if_neg (fun e => absurd (e ▸ h) (by decide))).symm
theorem zz_e2 {x : Int32} (h : ¬ x ≤ 0) : (-1 : Int32) = if x = 0 then 0 else -1 := (if_neg (fun e => absurd (e ▸ Int32.le_refl x) h)).symm
theorem zz_e3 {x : Int32} (h1 : ¬ x < 0) (h2 : x ≤ 0) : x = if x = 0 then 0 else -1 := by rw [zz_le0 h1 h2]; rfl
def zz_im (b : Int32) : Int32 := if b < 0 then -1 else if b < 3 then 0 else -1
def zz_ab (w : Int32) : Int32 := if w = 0 then 0 else if w = 1 then 0 else if w = 4 then 0 else -1
theorem zz_abo {x : Int32} (h : x.toInt < 0 ∨ 4 < x.toInt) : (-1 : Int32) = zz_ab x := by
  unfold zz_ab
  rw [if_neg (fun e => ?_), if_neg (fun e => ?_), if_neg (fun e => ?_)]
  all_goals (rw [e] at h; revert h; decide)
theorem zz_ii1 {x a b : Int32} (h : x < a) : ((0 : Int32) = 1 ∧ a ≤ x ∧ x ≤ b) ∨ ((0 : Int32) = 0 ∧ (x < a ∨ b < x)) := Or.inr ⟨rfl, Or.inl h⟩
theorem zz_ii2 {x a b : Int32} (h : b < x) : ((0 : Int32) = 1 ∧ a ≤ x ∧ x ≤ b) ∨ ((0 : Int32) = 0 ∧ (x < a ∨ b < x)) := Or.inr ⟨rfl, Or.inr h⟩
theorem zz_ii3 {x a b : Int32} (h1 : ¬ x < a) (h2 : ¬ b < x) : ((1 : Int32) = 1 ∧ a ≤ x ∧ x ≤ b) ∨ ((1 : Int32) = 0 ∧ (x < a ∨ b < x)) := Or.inl ⟨rfl, Int32.not_lt.mp h1, Int32.not_lt.mp h2⟩
theorem zz_np {r x : Int32} (h : (r = 1 ∧ 0 ≤ x ∧ x ≤ (-1)) ∨ (r = 0 ∧ (x < 0 ∨ (-1) < x))) : r = 0 := by
  rcases h with ⟨-, h1, h2⟩ | ⟨h, -⟩
  · have a1 := Int32.le_iff_toInt_le.mp h1
    have a2 := Int32.le_iff_toInt_le.mp h2
    rw [show (0 : Int32).toInt = 0 from by decide] at a1
    rw [show (-1 : Int32).toInt = -1 from by decide] at a2
    omega
  · exact h
theorem zz_b3 {r x : Int32} (h : (r = 1 ∧ 0 ≤ x ∧ x ≤ 2) ∨ (r = 0 ∧ (x < 0 ∨ 2 < x))) (c : ¬ r = 0) : x = 0 ∨ x = 1 ∨ x = 2 := by
  rcases h with ⟨-, h1, h2⟩ | ⟨h, -⟩
  · refine zz_three (Int32.not_lt.mpr h1) ?_
    have a2 := Int32.le_iff_toInt_le.mp h2
    refine Int32.lt_iff_toInt_lt.mpr ?_
    rw [show (2 : Int32).toInt = 2 from by decide] at a2
    rw [show (3 : Int32).toInt = 3 from by decide]
    omega
  · exact absurd h c
theorem zz_imr {r x : Int32} (h : (r = 1 ∧ 0 ≤ x ∧ x ≤ 2) ∨ (r = 0 ∧ (x < 0 ∨ 2 < x))) (c : r = 0) : (-1 : Int32) = zz_im x := by
  unfold zz_im
  rcases h with ⟨h, -⟩ | ⟨-, h | h⟩
  · rw [c] at h
    exact absurd h (by decide)
  · rw [if_pos h]
  · have a2 := Int32.lt_iff_toInt_lt.mp h
    rw [show (2 : Int32).toInt = 2 from by decide] at a2
    by_cases h0 : x < 0
    · rw [if_pos h0]
    · rw [if_neg h0, if_neg (fun h3 => ?_)]
      have a3 := Int32.lt_iff_toInt_lt.mp h3
      rw [show (3 : Int32).toInt = 3 from by decide] at a3
      omega
theorem zz_in {i : Int32} {n : Nat} (h : ¬ (i < 0 ∨ n ≤ i.toNatClampNeg)) : vp_in i n := h
theorem zz_im0 {i : Nat} (h : i < 160) : vp_in (0 + nI i) 480 := by
  rw [show (0 : Int32) = nI 0 from rfl, nI_add]
  exact vp_in_nI (by omega) (by decide)
theorem zz_im160 {i : Nat} (h : i < 160) : vp_in (160 + nI i) 480 := by
  rw [show (160 : Int32) = nI 160 from rfl, nI_add]
  exact vp_in_nI (by omega) (by decide)
theorem zz_im320 {i : Nat} (h : i < 160) : vp_in (320 + nI i) 480 := by
  rw [show (320 : Int32) = nI 320 from rfl, nI_add]
  exact vp_in_nI (by omega) (by decide)
theorem zz_P0 {D : va_G} {cl : List vw_C} {H : Heap} : va_P D cl [] H := fun k q h => by simp at h
theorem zz_D0 {A : Nat → Prop} : va_D A [] := ⟨fun i j p q h => by simp at h, fun k q h => by simp at h⟩
theorem zgX0 : wsX00.all goodWord = true := by decide +kernel
theorem zgX1 : wsX10.all goodWord = true := by decide +kernel
theorem zgX2 : wsX20.all goodWord = true := by decide +kernel
theorem zgX3 : wsX30.all goodWord = true := by decide +kernel
theorem zgX4 : wsX40.all goodWord = true := by decide +kernel
theorem zgX5 : wsX50.all goodWord = true := by decide +kernel
theorem zgX6 : wsX60.all goodWord = true := by decide +kernel
theorem zgX7 : wsX70.all goodWord = true := by decide +kernel
theorem zgX8 : wsX80.all goodWord = true := by decide +kernel
theorem zgX9 : wsX90.all goodWord = true := by decide +kernel
theorem zgX10 : wsX100.all goodWord = true := by decide +kernel
theorem zgX11 : wsX110.all goodWord = true := by decide +kernel
theorem zgX12 : wsX120.all goodWord = true := by decide +kernel
