set_option maxRecDepth 100000 in
theorem zz_el : ∀ j, j < 61 → Cond.eq (.elem (.field (Term.string "CakePapers$Scanner" 23) "java/lang/String" "value" "[B") (.int (Int32.ofNat j))) (.int ((([[99, 97, 108, 108, 32, 109, 97, 107, 101, 32, 98, 121, 32, 111, 102, 32, 109, 117, 99, 104, 32, 108, 111, 110, 103, 32, 119, 97, 110, 116, 32, 115, 116, 101, 112, 115, 32, 112, 97, 116, 104, 32, 101, 110, 100, 115, 32, 104, 97, 115, 32, 97, 110, 100, 32, 111, 114, 32, 110, 111, 116]] : List (List Int32)).getD 0 []).getD j 0)) ∈ flatC (Jvm.Cond.and given_1 narrow_1) := by decide +kernel
set_option maxHeartbeats 4000000 in
set_option maxRecDepth 100000 in
/-- what the Statement gives of the class's one text -/
theorem zz_text {s : State} {b : Nat} {A : Nat → Prop} (hts : ∀ w ∈ lw_tbl, w.before #[Value.ref b] s = true) (hgv : (Jvm.Cond.and given_1 narrow_1).before #[Value.ref b] s = true) (hA : ∀ a : Nat, a < s.heap.size → ¬ A a) : ∃ (zq zv : Nat) (zg : Nat → Int32), zS zq zv zg A s s.heap ∧ vk_R RX8 23 zT zq s := by
  have hs := flat_of_before _ hgv
  obtain ⟨adK, adV, hv, hk⟩ := vk_Sof (args := #[Value.ref b]) (s := s) (N := 1) (tm := fun _ => Term.string "CakePapers$Scanner" 23) (len := [61]) (byt := [[99, 97, 108, 108, 32, 109, 97, 107, 101, 32, 98, 121, 32, 111, 102, 32, 109, 117, 99, 104, 32, 108, 111, 110, 103, 32, 119, 97, 110, 116, 32, 115, 116, 101, 112, 115, 32, 112, 97, 116, 104, 32, 101, 110, 100, 115, 32, 104, 97, 115, 32, 97, 110, 100, 32, 111, 114, 32, 110, 111, 116]]) (A := A) (fun i hi => by rcases (show i = 0 by omega) with rfl; decide) (fun i hi => hs _ (by decide +kernel)) (fun i hi => hs _ (by decide +kernel)) (fun i hi => hs _ (by decide +kernel)) (fun i hi => by rcases (show i = 0 by omega) with rfl; exact hs _ (by decide +kernel))
    (fun i hi j hj => by
      rcases (show i = 0 by omega) with rfl
      have hj : j < 61 := hj
      exact hs _ (zz_el j hj)) (fun i j hi hj hn => absurd (show i = j by omega) hn) hA
  refine ⟨adK 0, adV 0, fun j => ([99, 97, 108, 108, 32, 109, 97, 107, 101, 32, 98, 121, 32, 111, 102, 32, 109, 117, 99, 104, 32, 108, 111, 110, 103, 32, 119, 97, 110, 116, 32, 115, 116, 101, 112, 115, 32, 112, 97, 116, 104, 32, 101, 110, 100, 115, 32, 104, 97, 115, 32, 97, 110, 100, 32, 111, 114, 32, 110, 111, 116] : List Int32).getD j 0, ⟨?_, (hv.1 0 (by decide)).1, (hv.1 0 (by decide)).2.1, (hv.1 0 (by decide)).2.2.1, (hv.1 0 (by decide)).2.2.2, ?_⟩, ?_⟩
  · exact va_Zof (hts (.laysStatic "java/lang/String" "COMPACT_STRINGS" "Z") (by decide +kernel)) (hts (.initialized "java/lang/String") (by decide +kernel)) (va_eqi (hs _ (by decide +kernel))) hA
  · exact va_Zqof (hts (.laysStatic "jdk/internal/util/Preconditions" "SIOOBE_FORMATTER" "Ljava/util/function/BiFunction;") (by decide +kernel)) (hts (.initialized "jdk/internal/util/Preconditions") (by decide +kernel)) (hs _ (by decide +kernel)) hA
  · exact vk_R.of (hts (.stringRef "CakePapers$Scanner" 23 zT) (by decide +kernel)) (hk 0 (by decide))
theorem zz_lt6 : ∀ L : Nat, L < 6 → Int32.ofNat L - 6 < 0 := by decide