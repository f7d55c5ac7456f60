theorem zz_ci {p : Program} {l : Launch} {e : Env} {R : Room} {s : State} {m : MethodId} {args : Array Value} {below : List Frame} {meth : Method} {c : Code} {H : Heap} {locs : List Loc} {cells slots : Nat} {Q : State → Prop} {pc : Nat} {ls : Array Slot} {rest : List Value} {x y : Int32} (h : x = y) (k : W p l e R s m args below meth c H locs cells slots Q (F0 m pc ls (.int y :: rest))) : W p l e R s m args below meth c H locs cells slots Q (F0 m pc ls (.int x :: rest)) := h ▸ k
theorem zz_sw_0_4 (x : Int32) : (x.toInt < 0 ∨ 4 < x.toInt) ∨ x = 0 ∨ x = 1 ∨ x = 2 ∨ x = 3 ∨ x = 4 := by
  by_cases h1 : x.toInt < 0
  · exact Or.inl (Or.inl h1)
  by_cases h2 : 4 < x.toInt
  · exact Or.inl (Or.inr h2)
  right
  have h3 : x.toInt = 0 ∨ x.toInt = 1 ∨ x.toInt = 2 ∨ x.toInt = 3 ∨ x.toInt = 4 := by omega
  rcases h3 with h | h | h | h | h
  · exact Or.inl (Int32.toInt_inj.mp (h.trans (by decide)))
  · exact Or.inr (Or.inl (Int32.toInt_inj.mp (h.trans (by decide))))
  · exact Or.inr (Or.inr (Or.inl (Int32.toInt_inj.mp (h.trans (by decide)))))
  · exact Or.inr (Or.inr (Or.inr (Or.inl (Int32.toInt_inj.mp (h.trans (by decide))))))
  · exact Or.inr (Or.inr (Or.inr (Or.inr (Int32.toInt_inj.mp (h.trans (by decide))))))
theorem zz_three {x : Int32} (h1 : ¬ x < 0) (h2 : x < 3) : x = 0 ∨ x = 1 ∨ x = 2 := by
  have a1 : ¬ x.toInt < 0 := fun h => h1 (Int32.lt_iff_toInt_lt.mpr (by simpa using h))
  have a2 : x.toInt < 3 := by simpa using Int32.lt_iff_toInt_lt.mp h2
  have h3 : x.toInt = 0 ∨ x.toInt = 1 ∨ x.toInt = 2 := by omega
  rcases h3 with h | h | h
  · exact Or.inl (Int32.toInt_inj.mp (h.trans (by decide)))
  · exact Or.inr (Or.inl (Int32.toInt_inj.mp (h.trans (by decide))))
  · exact Or.inr (Or.inr (Int32.toInt_inj.mp (h.trans (by decide))))
theorem zz_le0 {x : Int32} (h1 : ¬ x < 0) (h2 : x ≤ 0) : x = 0 := by
  have a1 : ¬ x.toInt < 0 := fun h => h1 (Int32.lt_iff_toInt_lt.mpr (by simpa using h))
  have a2 : x.toInt ≤ 0 := by simpa using Int32.le_iff_toInt_le.mp h2
  exact Int32.toInt_inj.mp ((show x.toInt = 0 by omega).trans (by decide))
theorem zz_e1 {x : Int32} (h : x < 0) : (-1 : Int32) = if x = 0 then 0 else -1 := (if_neg (fun e => absurd (e ▸ h) (by decide))).symm
theorem zz_e2 {x : Int32} (h : ¬ x ≤ 0) : (-1 : Int32) = if x = 0 then 0 else -1 := (if_neg (fun e => absurd (e ▸ Int32.le_refl x) h)).symm
theorem zz_e3 {x : Int32} (h1 : ¬ x < 0) (h2 : x ≤ 0) : x = if x = 0 then 0 else -1 := by rw [zz_le0 h1 h2]; rfl
def zz_im (b : Int32) : Int32 := if b < 0 then -1 else if b < 3 then 0 else -1
def zz_ab (w : Int32) : Int32 := if w = 0 then 0 else if w = 1 then 0 else if w = 4 then 0 else -1
theorem zz_abo {x : Int32} (h : x.toInt < 0 ∨ 4 < x.toInt) : (-1 : Int32) = zz_ab x := by
  unfold zz_ab
  rw [if_neg (fun e => ?_), if_neg (fun e => ?_), if_neg (fun e => ?_)]
  all_goals (rw [e] at h; revert h; decide)
theorem zz_in {i : Int32} {n : Nat} (h : ¬ (i < 0 ∨ n ≤ i.toNatClampNeg)) : vp_in i n := h
theorem zz_P0 {D : va_G} {cl : List vw_C} {H : Heap} : va_P D cl [] H := fun k q h => by simp at h
theorem zz_D0 {A : Nat → Prop} : va_D A [] := ⟨fun i j p q h => by simp at h, fun k q h => by simp at h⟩
